set_option maxHeartbeats 4000000 in
theorem mX6_thrown {l : Launch} {D : va_G} {a : Nat → Nat} {cA : ClassId} {sz : Nat} {u : g_S}  {rv : Int32} (h : fm_thrown u = some rv) : gw_Mi D vwCl [(cA, .int)] (mdA a) gY (mdW a cA) l yX6_thrown wxX6_thrown rmX6_thrown sz u [.ref (a 0)] rv u := by
  refine gw_Mof (Qc := fun z => va_Qi (gw_Pi rv u) (gw_W D vwCl (mdW a cA)) (rg (mdA a) z)) (cc := cX6_thrown) (maxL := 1) (ret := (some .int)) (by decide) rfl ?_
  intro p e s m below meth c B C V
  obtain ⟨hx, hb, hml, hown, hts, hr, hlk⟩ := id B
  have hl := lv_entry ([.ref (a 0)]) (n := 1) (Nat.le_of_ble_eq_true rfl)
  rw [lg_entry_eq]
  generalize (lg_sl ([.ref (a 0)]) ++ List.replicate (1 - (lg_sl ([.ref (a 0)])).length) Slot.unset).toArray = ls at hl ⊢
  have hl : lv_has ls 1 [(0, .ref (a 0))] := hl
  unfold fm_thrown at h
  refine lv_aload_n hx hb dX6_thrown_0 rfl (lv_at hl 0 rfl) ?_
  refine va_get (C := RX6) (T := TX6) (N := 24) (ci := 5) hx hb hts igX6 hown C.1 V.1 0 rfl rfl 0 (by decide) (hts _ kt_603) (fun _ h => h) rfl dX6_thrown_1 ?_
  exact gw_reti hx hb hr rfl hlk V (Option.some.inj h) rfl dX6_thrown_4
set_option maxHeartbeats 4000000 in
theorem LX6_throwing_26 {p : Program} {l : Launch} {e : Env} {s : State} {m : MethodId} {below : List Frame} {meth : Method} {c : Code} {args : Array Value} {D : va_G} {a : Nat → Nat} {cA : ClassId} (B : gw_B p s m args meth c cX6_throwing 4 (some .boolean) RX6 gT) (C : gw_C D vwCl [(cA, .int)] (mdA a) gY s) {rv : Int32 × g_S} : ∀ (y1 : Int32) (u : g_S) (H : Heap) (locs : List Loc) (ls : Array Slot), gw_V D vwCl (mdA a) (mdW a cA) s u H locs → lv_has ls 4 [(0, .ref (a 0))] → fm_throwing_26 u y1 = some rv → W p l e rmX6_throwing s m args below meth c H locs 0 0 (gw_Ei D vwCl (mdA a) (mdW a cA) below args s rv.1 rv.2) (F0 m 26 ls [.int y1, .ref (a 0)]) := by
  obtain ⟨hx, hb, hml, hown, hts, hr, hlk⟩ := id B
  intro y1 u H locs ls V hl h
  unfold fm_throwing_26 at h
  obtain ⟨u1, eu1, h⟩ := gl_e h
  refine gw_put (u' := u1) (C := RX6) (T := TX6) (N := 24) (ci := 5) hx hb hts igX6 tyX6 tyX6_ok nmX6 hown (mdW_as a cA) C V 0 rfl rfl 0 (by decide) (hts _ kt_603) (fun _ h => h) rfl rfl (Nat.le_of_ble_eq_true rfl) (mdP_0 _ _ _ _ _ eu1) dX6_throwing_26 (fun H locs V => ?_)
  refine lv_aload_n hx hb dX6_throwing_29 rfl (lv_at hl 0 rfl) ?_
  refine va_get (C := RX6) (T := TX6) (N := 24) (ci := 5) hx hb hts igX6 hown C.1 V.1 0 rfl rfl 0 (by decide) (hts _ kt_603) (fun _ h => h) rfl dX6_throwing_30 ?_
  refine lv_if_le (tgt := 40) hx hb dX6_throwing_33 (by decide) (fun c2 => ?_) (fun c2 => ?_)
  · have h := if_t c2 h
    refine lv_iconst (v := (0 : Int32)) hx hb dX6_throwing_40 (by decide) ?_
    exact gw_reti hx hb hr (nar_z (Or.inl rfl)) hlk V (in2a h) (in2b h) dX6_throwing_41
  · have h := if_f c2 h
    refine lv_iconst (v := (1 : Int32)) hx hb dX6_throwing_36 (by decide) ?_
    refine lv_goto (tgt := 41) hx hb dX6_throwing_37 (by decide) ?_
    exact gw_reti hx hb hr (nar_z (Or.inr rfl)) hlk V (in2a h) (in2b h) dX6_throwing_41
set_option maxHeartbeats 4000000 in
theorem mX6_throwing {l : Launch} {D : va_G} {a : Nat → Nat} {cA : ClassId} {sz : Nat} {u : g_S} {p1 : Int32} {p2 : Int32} {p3 : Int32} {rv : Int32 × g_S} (h : fm_throwing u p1 p2 p3 = some rv) : gw_Mi D vwCl [(cA, .int)] (mdA a) gY (mdW a cA) l yX6_throwing wxX6_throwing rmX6_throwing sz u [.ref (a 0), .int p1, .int p2, .int p3] rv.1 rv.2 := by
  refine gw_Mof (Qc := fun z => va_Qi (gw_Pi rv.1 rv.2) (gw_W D vwCl (mdW a cA)) (rg (mdA a) z)) (cc := cX6_throwing) (maxL := 4) (ret := (some .boolean)) (by decide) rfl ?_
  intro p e s m below meth c B C V
  obtain ⟨hx, hb, hml, hown, hts, hr, hlk⟩ := id B
  have hl := lv_entry ([.ref (a 0), .int p1, .int p2, .int p3]) (n := 4) (Nat.le_of_ble_eq_true rfl)
  rw [lg_entry_eq]
  generalize (lg_sl ([.ref (a 0), .int p1, .int p2, .int p3]) ++ List.replicate (4 - (lg_sl ([.ref (a 0), .int p1, .int p2, .int p3])).length) Slot.unset).toArray = ls at hl ⊢
  have hl : lv_has ls 4 [(0, .ref (a 0)), (1, .int p1), (2, .int p2), (3, .int p3)] := hl
  unfold fm_throwing at h
  refine lv_aload_n hx hb dX6_throwing_0 rfl (lv_at hl 0 rfl) ?_
  refine lv_iload_n hx hb dX6_throwing_1 rfl (lv_at hl 1 rfl) ?_
  refine lv_if_eq (tgt := 9) hx hb dX6_throwing_2 (by decide) (fun c1 => ?_) (fun c1 => ?_)
  · have h := if_t c1 h
    refine lv_iload_n hx hb dX6_throwing_9 rfl (lv_at hl 2 rfl) ?_
    refine lv_if_eq (tgt := 17) hx hb dX6_throwing_10 (by decide) (fun c2 => ?_) (fun c2 => ?_)
    · have h := if_t c2 h
      refine lv_iload_n hx hb dX6_throwing_17 rfl (lv_at hl 3 rfl) ?_
      refine lv_if_eq (tgt := 25) hx hb dX6_throwing_18 (by decide) (fun c3 => ?_) (fun c3 => ?_)
      · have h := if_t c3 h
        refine lv_iconst (v := (0 : Int32)) hx hb dX6_throwing_25 (by decide) ?_
        exact LX6_throwing_26 B C (0 : Int32) u _ _ _ V (lv_sub hl [0] rfl) h
      · have h := if_f c3 h
        refine lv_iconst (v := (3 : Int32)) hx hb dX6_throwing_21 (by decide) ?_
        refine lv_goto (tgt := 26) hx hb dX6_throwing_22 (by decide) ?_
        exact LX6_throwing_26 B C (3 : Int32) u _ _ _ V (lv_sub hl [0] rfl) h
    · have h := if_f c2 h
      refine lv_iconst (v := (2 : Int32)) hx hb dX6_throwing_13 (by decide) ?_
      refine lv_goto (tgt := 26) hx hb dX6_throwing_14 (by decide) ?_
      exact LX6_throwing_26 B C (2 : Int32) u _ _ _ V (lv_sub hl [0] rfl) h
  · have h := if_f c1 h
    refine lv_iconst (v := (1 : Int32)) hx hb dX6_throwing_5 (by decide) ?_
    refine lv_goto (tgt := 26) hx hb dX6_throwing_6 (by decide) ?_
    exact LX6_throwing_26 B C (1 : Int32) u _ _ _ V (lv_sub hl [0] rfl) h
set_option maxHeartbeats 4000000 in
theorem mX6_in {l : Launch} {D : va_G} {a : Nat → Nat} {cA : ClassId} {sz : Nat} {u : g_S} {p0 : Int32} {p1 : Int32} {p2 : Int32} {rv : Int32} (h : fm_in p0 p1 p2 = some rv) : gw_Mi D vwCl [(cA, .int)] (mdA a) gY (mdW a cA) l yX6_in wxX6_in rmX6_in sz u [.int p0, .int p1, .int p2] rv u := by
  refine gw_Mof (Qc := fun z => va_Qi (gw_Pi rv u) (gw_W D vwCl (mdW a cA)) (rg (mdA a) z)) (cc := cX6_in) (maxL := 3) (ret := (some .boolean)) (by decide) rfl ?_
  intro p e s m below meth c B C V
  obtain ⟨hx, hb, hml, hown, hts, hr, hlk⟩ := id B
  have hl := lv_entry ([.int p0, .int p1, .int p2]) (n := 3) (Nat.le_of_ble_eq_true rfl)
  rw [lg_entry_eq]
  generalize (lg_sl ([.int p0, .int p1, .int p2]) ++ List.replicate (3 - (lg_sl ([.int p0, .int p1, .int p2])).length) Slot.unset).toArray = ls at hl ⊢
  have hl : lv_has ls 3 [(0, .int p0), (1, .int p1), (2, .int p2)] := hl
  unfold fm_in at h
  refine lv_iload_n hx hb dX6_in_0 rfl (lv_at hl 0 rfl) ?_
  refine lv_iload_n hx hb dX6_in_1 rfl (lv_at hl 1 rfl) ?_
  refine lv_icmp_lt (tgt := 14) hx hb dX6_in_2 (by decide) (fun c1 => ?_) (fun c1 => ?_)
  · have h := if_t c1 h
    refine lv_iconst (v := (0 : Int32)) hx hb dX6_in_14 (by decide) ?_
    exact gw_reti hx hb hr (nar_z (Or.inl rfl)) hlk V (Option.some.inj h) rfl dX6_in_15
  · have h := if_f c1 h
    refine lv_iload_n hx hb dX6_in_5 rfl (lv_at hl 0 rfl) ?_
    refine lv_iload_n hx hb dX6_in_6 rfl (lv_at hl 2 rfl) ?_
    refine lv_icmp_gt (tgt := 14) hx hb dX6_in_7 (by decide) (fun c2 => ?_) (fun c2 => ?_)
    · have h := if_t c2 h
      refine lv_iconst (v := (0 : Int32)) hx hb dX6_in_14 (by decide) ?_
      exact gw_reti hx hb hr (nar_z (Or.inl rfl)) hlk V (Option.some.inj h) rfl dX6_in_15
    · have h := if_f c2 h
      refine lv_iconst (v := (1 : Int32)) hx hb dX6_in_10 (by decide) ?_
      refine lv_goto (tgt := 15) hx hb dX6_in_11 (by decide) ?_
      exact gw_reti hx hb hr (nar_z (Or.inr rfl)) hlk V (Option.some.inj h) rfl dX6_in_15
set_option maxHeartbeats 4000000 in
theorem mX6_isKind {l : Launch} {D : va_G} {a : Nat → Nat} {cA : ClassId} {sz : Nat} {u : g_S} {p0 : Int32} {rv : Int32} (h : fm_isKind p0 = some rv) : gw_Mi D vwCl [(cA, .int)] (mdA a) gY (mdW a cA) l yX6_isKind wxX6_isKind rmX6_isKind sz u [.int p0] rv u := by
  refine gw_Mof (Qc := fun z => va_Qi (gw_Pi rv u) (gw_W D vwCl (mdW a cA)) (rg (mdA a) z)) (cc := cX6_isKind) (maxL := 1) (ret := (some .boolean)) (by decide) rfl ?_
  intro p e s m below meth c B C V
  obtain ⟨hx, hb, hml, hown, hts, hr, hlk⟩ := id B
  have hl := lv_entry ([.int p0]) (n := 1) (Nat.le_of_ble_eq_true rfl)
  rw [lg_entry_eq]
  generalize (lg_sl ([.int p0]) ++ List.replicate (1 - (lg_sl ([.int p0])).length) Slot.unset).toArray = ls at hl ⊢
  have hl : lv_has ls 1 [(0, .int p0)] := hl
  unfold fm_isKind at h
  refine lv_iload_n hx hb dX6_isKind_0 rfl (lv_at hl 0 rfl) ?_
  refine lv_iconst (v := (0 : Int32)) hx hb dX6_isKind_1 (by decide) ?_
  refine lv_bipush (v := (7 : Int32)) hx hb dX6_isKind_2 (by decide) ?_
  obtain ⟨v1, hv1, h⟩ := bi_e h
  refine gw_ki V (va_runS (As := [.int p0, .int (0 : Int32), .int (7 : Int32)]) (rest := []) ⟨hx, hb, hml, hown, hts⟩ (mX6_in (D := D) (a := a) (cA := cA) (u := u) hv1) (cwS 3 hts gmdX6_74 rfl rfl rfl (by decide +kernel) ⟨Nat.le_of_ble_eq_true rfl, Nat.le_of_ble_eq_true rfl⟩) (gw_preS gY_ok C V [.int p0, .int (0 : Int32), .int (7 : Int32)]) rfl rfl hl.1 rfl (lv_room (Nat.le_of_ble_eq_true rfl)) dX6_isKind_4 ⟨Nat.zero_le _, Nat.zero_le _⟩) (fun H locs V => ?_)
  obtain ⟨hz, h⟩ := if_s h
  exact gw_reti hx hb hr (nar_z hz) hlk V (Option.some.inj h) rfl dX6_isKind_7
set_option maxHeartbeats 4000000 in
theorem mX6_isRoad {l : Launch} {D : va_G} {a : Nat → Nat} {cA : ClassId} {sz : Nat} {u : g_S} {p0 : Int32} {rv : Int32} (h : fm_isRoad p0 = some rv) : gw_Mi D vwCl [(cA, .int)] (mdA a) gY (mdW a cA) l yX6_isRoad wxX6_isRoad rmX6_isRoad sz u [.int p0] rv u := by
  refine gw_Mof (Qc := fun z => va_Qi (gw_Pi rv u) (gw_W D vwCl (mdW a cA)) (rg (mdA a) z)) (cc := cX6_isRoad) (maxL := 1) (ret := (some .boolean)) (by decide) rfl ?_
  intro p e s m below meth c B C V
  obtain ⟨hx, hb, hml, hown, hts, hr, hlk⟩ := id B
  have hl := lv_entry ([.int p0]) (n := 1) (Nat.le_of_ble_eq_true rfl)
  rw [lg_entry_eq]
  generalize (lg_sl ([.int p0]) ++ List.replicate (1 - (lg_sl ([.int p0])).length) Slot.unset).toArray = ls at hl ⊢
  have hl : lv_has ls 1 [(0, .int p0)] := hl
  unfold fm_isRoad at h
  refine lv_iload_n hx hb dX6_isRoad_0 rfl (lv_at hl 0 rfl) ?_
  refine lv_iconst (v := (0 : Int32)) hx hb dX6_isRoad_1 (by decide) ?_
  refine lv_bipush (v := (7 : Int32)) hx hb dX6_isRoad_2 (by decide) ?_
  obtain ⟨v1, hv1, h⟩ := bi_e h
  refine gw_ki V (va_runS (As := [.int p0, .int (0 : Int32), .int (7 : Int32)]) (rest := []) ⟨hx, hb, hml, hown, hts⟩ (mX6_in (D := D) (a := a) (cA := cA) (u := u) hv1) (cwS 3 hts gmdX6_74 rfl rfl rfl (by decide +kernel) ⟨Nat.le_of_ble_eq_true rfl, Nat.le_of_ble_eq_true rfl⟩) (gw_preS gY_ok C V [.int p0, .int (0 : Int32), .int (7 : Int32)]) rfl rfl hl.1 rfl (lv_room (Nat.le_of_ble_eq_true rfl)) dX6_isRoad_4 ⟨Nat.zero_le _, Nat.zero_le _⟩) (fun H locs V => ?_)
  obtain ⟨hz, h⟩ := if_s h
  exact gw_reti hx hb hr (nar_z hz) hlk V (Option.some.inj h) rfl dX6_isRoad_7
set_option maxHeartbeats 4000000 in
theorem mX6_isCall {l : Launch} {D : va_G} {a : Nat → Nat} {cA : ClassId} {sz : Nat} {u : g_S} {p1 : Int32} {rv : Int32} (h : fm_isCall u p1 = some rv) : gw_Mi D vwCl [(cA, .int)] (mdA a) gY (mdW a cA) l yX6_isCall wxX6_isCall rmX6_isCall sz u [.ref (a 0), .int p1] rv u := by
  refine gw_Mof (Qc := fun z => va_Qi (gw_Pi rv u) (gw_W D vwCl (mdW a cA)) (rg (mdA a) z)) (cc := cX6_isCall) (maxL := 2) (ret := (some .boolean)) (by decide) rfl ?_
  intro p e s m below meth c B C V
  obtain ⟨hx, hb, hml, hown, hts, hr, hlk⟩ := id B
  have hl := lv_entry ([.ref (a 0), .int p1]) (n := 2) (Nat.le_of_ble_eq_true rfl)
  rw [lg_entry_eq]
  generalize (lg_sl ([.ref (a 0), .int p1]) ++ List.replicate (2 - (lg_sl ([.ref (a 0), .int p1])).length) Slot.unset).toArray = ls at hl ⊢
  have hl : lv_has ls 2 [(0, .ref (a 0)), (1, .int p1)] := hl
  unfold fm_isCall at h
  refine lv_iload_n hx hb dX6_isCall_0 rfl (lv_at hl 1 rfl) ?_
  refine lv_iconst (v := (0 : Int32)) hx hb dX6_isCall_1 (by decide) ?_
  refine lv_aload_n hx hb dX6_isCall_2 rfl (lv_at hl 0 rfl) ?_
  refine va_get (C := RX6) (T := TX6) (N := 24) (ci := 5) hx hb hts igX6 hown C.1 V.1 0 rfl rfl 8 (by decide) (hts _ kt_611) (fun _ h => h) rfl dX6_isCall_3 ?_
  refine lv_iconst (v := (1 : Int32)) hx hb dX6_isCall_6 (by decide) ?_
  refine lv_isub hx hb dX6_isCall_7 ?_
  obtain ⟨v1, hv1, h⟩ := bi_e h
  refine gw_ki V (va_runS (As := [.int p1, .int (0 : Int32), .int ((u.1 1) - (1 : Int32))]) (rest := []) ⟨hx, hb, hml, hown, hts⟩ (mX6_in (D := D) (a := a) (cA := cA) (u := u) hv1) (cwS 3 hts gmdX6_74 rfl rfl rfl (by decide +kernel) ⟨Nat.le_of_ble_eq_true rfl, Nat.le_of_ble_eq_true rfl⟩) (gw_preS gY_ok C V [.int p1, .int (0 : Int32), .int ((u.1 1) - (1 : Int32))]) rfl rfl hl.1 rfl (lv_room (Nat.le_of_ble_eq_true rfl)) dX6_isCall_8 ⟨Nat.zero_le _, Nat.zero_le _⟩) (fun H locs V => ?_)
  obtain ⟨hz, h⟩ := if_s h
  exact gw_reti hx hb hr (nar_z hz) hlk V (Option.some.inj h) rfl dX6_isCall_11
set_option maxHeartbeats 4000000 in
theorem mX6_isEvent {l : Launch} {D : va_G} {a : Nat → Nat} {cA : ClassId} {sz : Nat} {u : g_S} {p1 : Int32} {rv : Int32} (h : fm_isEvent u p1 = some rv) : gw_Mi D vwCl [(cA, .int)] (mdA a) gY (mdW a cA) l yX6_isEvent wxX6_isEvent rmX6_isEvent sz u [.ref (a 0), .int p1] rv u := by
  refine gw_Mof (Qc := fun z => va_Qi (gw_Pi rv u) (gw_W D vwCl (mdW a cA)) (rg (mdA a) z)) (cc := cX6_isEvent) (maxL := 2) (ret := (some .boolean)) (by decide) rfl ?_
  intro p e s m below meth c B C V
  obtain ⟨hx, hb, hml, hown, hts, hr, hlk⟩ := id B
  have hl := lv_entry ([.ref (a 0), .int p1]) (n := 2) (Nat.le_of_ble_eq_true rfl)
  rw [lg_entry_eq]
  generalize (lg_sl ([.ref (a 0), .int p1]) ++ List.replicate (2 - (lg_sl ([.ref (a 0), .int p1])).length) Slot.unset).toArray = ls at hl ⊢
  have hl : lv_has ls 2 [(0, .ref (a 0)), (1, .int p1)] := hl
  unfold fm_isEvent at h
  refine lv_iload_n hx hb dX6_isEvent_0 rfl (lv_at hl 1 rfl) ?_
  refine lv_iconst (v := (0 : Int32)) hx hb dX6_isEvent_1 (by decide) ?_
  refine lv_aload_n hx hb dX6_isEvent_2 rfl (lv_at hl 0 rfl) ?_
  refine va_get (C := RX6) (T := TX6) (N := 24) (ci := 5) hx hb hts igX6 hown C.1 V.1 0 rfl rfl 9 (by decide) (hts _ kt_612) (fun _ h => h) rfl dX6_isEvent_3 ?_
  refine lv_iconst (v := (1 : Int32)) hx hb dX6_isEvent_6 (by decide) ?_
  refine lv_isub hx hb dX6_isEvent_7 ?_
  obtain ⟨v1, hv1, h⟩ := bi_e h
  refine gw_ki V (va_runS (As := [.int p1, .int (0 : Int32), .int ((u.1 2) - (1 : Int32))]) (rest := []) ⟨hx, hb, hml, hown, hts⟩ (mX6_in (D := D) (a := a) (cA := cA) (u := u) hv1) (cwS 3 hts gmdX6_74 rfl rfl rfl (by decide +kernel) ⟨Nat.le_of_ble_eq_true rfl, Nat.le_of_ble_eq_true rfl⟩) (gw_preS gY_ok C V [.int p1, .int (0 : Int32), .int ((u.1 2) - (1 : Int32))]) rfl rfl hl.1 rfl (lv_room (Nat.le_of_ble_eq_true rfl)) dX6_isEvent_8 ⟨Nat.zero_le _, Nat.zero_le _⟩) (fun H locs V => ?_)
  obtain ⟨hz, h⟩ := if_s h
  exact gw_reti hx hb hr (nar_z hz) hlk V (Option.some.inj h) rfl dX6_isEvent_11
set_option maxHeartbeats 4000000 in
theorem mX6_isPoint {l : Launch} {D : va_G} {a : Nat → Nat} {cA : ClassId} {sz : Nat} {u : g_S} {p0 : Int32} {rv : Int32} (h : fm_isPoint p0 = some rv) : gw_Mi D vwCl [(cA, .int)] (mdA a) gY (mdW a cA) l yX6_isPoint wxX6_isPoint rmX6_isPoint sz u [.int p0] rv u := by
  refine gw_Mof (Qc := fun z => va_Qi (gw_Pi rv u) (gw_W D vwCl (mdW a cA)) (rg (mdA a) z)) (cc := cX6_isPoint) (maxL := 1) (ret := (some .boolean)) (by decide) rfl ?_
  intro p e s m below meth c B C V
  obtain ⟨hx, hb, hml, hown, hts, hr, hlk⟩ := id B
  have hl := lv_entry ([.int p0]) (n := 1) (Nat.le_of_ble_eq_true rfl)
  rw [lg_entry_eq]
  generalize (lg_sl ([.int p0]) ++ List.replicate (1 - (lg_sl ([.int p0])).length) Slot.unset).toArray = ls at hl ⊢
  have hl : lv_has ls 1 [(0, .int p0)] := hl
  unfold fm_isPoint at h
  refine lv_iload_n hx hb dX6_isPoint_0 rfl (lv_at hl 0 rfl) ?_
  refine lv_iconst (v := (0 : Int32)) hx hb dX6_isPoint_1 (by decide) ?_
  refine lv_ldc (v := (99999999 : Int32)) hx hb hown (hts _ kt_709) dX6_isPoint_2 ?_
  obtain ⟨v1, hv1, h⟩ := bi_e h
  refine gw_ki V (va_runS (As := [.int p0, .int (0 : Int32), .int (99999999 : Int32)]) (rest := []) ⟨hx, hb, hml, hown, hts⟩ (mX6_in (D := D) (a := a) (cA := cA) (u := u) hv1) (cwS 3 hts gmdX6_74 rfl rfl rfl (by decide +kernel) ⟨Nat.le_of_ble_eq_true rfl, Nat.le_of_ble_eq_true rfl⟩) (gw_preS gY_ok C V [.int p0, .int (0 : Int32), .int (99999999 : Int32)]) rfl rfl hl.1 rfl (lv_room (Nat.le_of_ble_eq_true rfl)) dX6_isPoint_4 ⟨Nat.zero_le _, Nat.zero_le _⟩) (fun H locs V => ?_)
  obtain ⟨hz, h⟩ := if_s h
  exact gw_reti hx hb hr (nar_z hz) hlk V (Option.some.inj h) rfl dX6_isPoint_7
set_option maxHeartbeats 4000000 in
theorem LX6_rule_63 {p : Program} {l : Launch} {e : Env} {s : State} {m : MethodId} {below : List Frame} {meth : Method} {c : Code} {args : Array Value} {D : va_G} {a : Nat → Nat} {cA : ClassId} (B : gw_B p s m args meth c cX6_rule 7 none RX6 gT) (C : gw_C D vwCl [(cA, .int)] (mdA a) gY s) {rv : g_S} : ∀ (x1 : Int32) (x2 : Int32) (x3 : Int32) (x4 : Int32) (x5 : Int32) (x6 : Int32) (y1 : Int32) (u : g_S) (H : Heap) (locs : List Loc) (ls : Array Slot), gw_V D vwCl (mdA a) (mdW a cA) s u H locs → lv_has ls 7 [(0, .ref (a 0)), (1, .int x1), (2, .int x2), (3, .int x3), (4, .int x4), (5, .int x5), (6, .int x6)] → fm_rule_63 u x1 x2 x3 x4 x5 x6 y1 = some rv → W p l e rmX6_rule s m args below meth c H locs 0 0 (gw_Ev D vwCl (mdA a) (mdW a cA) below args s rv) (F0 m 63 ls [.int y1, .ref (a 0)]) := by
  obtain ⟨hx, hb, hml, hown, hts, hr, hlk⟩ := id B
  intro x1 x2 x3 x4 x5 x6 y1 u H locs ls V hl h
  unfold fm_rule_63 at h
  refine lv_iload hx hb dX6_rule_63 (lv_at hl 6 rfl) ?_
  refine lv_iconst (v := (0 : Int32)) hx hb dX6_rule_65 (by decide) ?_
  obtain ⟨v1, hv1, h⟩ := bi_e h
  refine gw_ki V (va_runV (As := [.int y1, .int x6, .int (0 : Int32)]) (rest := []) ⟨hx, hb, hml, hown, hts⟩ (mX6_throwing (D := D) (a := a) (cA := cA) (u := u) hv1) (cwV 3 hts gmdX6_90 rfl rfl rfl (by decide +kernel) ⟨Nat.le_of_ble_eq_true rfl, Nat.le_of_ble_eq_true rfl⟩) (gw_preV (q0 := 0) (ci := 5) gY_ok C V [.int y1, .int x6, .int (0 : Int32)] rfl rfl) rfl rfl hl.1 rfl (lv_room (Nat.le_of_ble_eq_true rfl)) dX6_rule_66 ⟨Nat.zero_le _, Nat.zero_le _⟩) (fun H locs V => ?_)
  refine lv_if_eq (tgt := 73) hx hb dX6_rule_69 (by decide) (fun c2 => ?_) (fun c2 => ?_)
  · have h := if_t c2 h
    refine lv_aload_n hx hb dX6_rule_73 rfl (lv_at hl 0 rfl) ?_
    refine va_get (C := RX6) (T := TX6) (N := 24) (ci := 5) hx hb hts igX6 hown C.1 V.1 0 rfl rfl 1 (by decide) (hts _ kt_604) (fun _ h => h) rfl dX6_rule_74 ?_
    refine lv_iload_n hx hb dX6_rule_77 rfl (lv_at hl 1 rfl) ?_
    refine lv_iload_n hx hb dX6_rule_78 rfl (lv_at hl 2 rfl) ?_
    obtain ⟨i3, h⟩ := ck_e h
    obtain ⟨u4, eu4, h⟩ := gl_e h
    refine gw_iast (u' := u4) hx hb (mdW_as a cA) C V 1 0 rfl rfl i3 (mdS_0 _ _ _ _ _ _ eu4) dX6_rule_79 (fun H locs V => ?_)
    refine lv_aload_n hx hb dX6_rule_80 rfl (lv_at hl 0 rfl) ?_
    refine va_get (C := RX6) (T := TX6) (N := 24) (ci := 5) hx hb hts igX6 hown C.1 V.1 0 rfl rfl 2 (by decide) (hts _ kt_605) (fun _ h => h) rfl dX6_rule_81 ?_
    refine lv_iload_n hx hb dX6_rule_84 rfl (lv_at hl 1 rfl) ?_
    refine lv_iload_n hx hb dX6_rule_85 rfl (lv_at hl 3 rfl) ?_
    obtain ⟨i5, h⟩ := ck_e h
    obtain ⟨u6, eu6, h⟩ := gl_e h
    refine gw_iast (u' := u6) hx hb (mdW_as a cA) C V 2 0 rfl rfl i5 (mdS_1 _ _ _ _ _ _ eu6) dX6_rule_86 (fun H locs V => ?_)
    refine lv_aload_n hx hb dX6_rule_87 rfl (lv_at hl 0 rfl) ?_
    refine va_get (C := RX6) (T := TX6) (N := 24) (ci := 5) hx hb hts igX6 hown C.1 V.1 0 rfl rfl 3 (by decide) (hts _ kt_606) (fun _ h => h) rfl dX6_rule_88 ?_
    refine lv_iload_n hx hb dX6_rule_91 rfl (lv_at hl 1 rfl) ?_
    refine lv_iload hx hb dX6_rule_92 (lv_at hl 4 rfl) ?_
    obtain ⟨i7, h⟩ := ck_e h
    obtain ⟨u8, eu8, h⟩ := gl_e h
    refine gw_iast (u' := u8) hx hb (mdW_as a cA) C V 3 0 rfl rfl i7 (mdS_2 _ _ _ _ _ _ eu8) dX6_rule_94 (fun H locs V => ?_)
    refine lv_aload_n hx hb dX6_rule_95 rfl (lv_at hl 0 rfl) ?_
    refine va_get (C := RX6) (T := TX6) (N := 24) (ci := 5) hx hb hts igX6 hown C.1 V.1 0 rfl rfl 4 (by decide) (hts _ kt_607) (fun _ h => h) rfl dX6_rule_96 ?_
    refine lv_iload_n hx hb dX6_rule_99 rfl (lv_at hl 1 rfl) ?_
    refine lv_iload hx hb dX6_rule_100 (lv_at hl 5 rfl) ?_
    obtain ⟨i9, h⟩ := ck_e h
    obtain ⟨u10, eu10, h⟩ := gl_e h
    refine gw_iast (u' := u10) hx hb (mdW_as a cA) C V 4 0 rfl rfl i9 (mdS_3 _ _ _ _ _ _ eu10) dX6_rule_102 (fun H locs V => ?_)
    exact gw_retv hx hb hr hlk V (Option.some.inj h) dX6_rule_103
  · have h := if_f c2 h
    exact gw_retv hx hb hr hlk V (Option.some.inj h) dX6_rule_72
set_option maxHeartbeats 4000000 in
theorem LX6_rule_48 {p : Program} {l : Launch} {e : Env} {s : State} {m : MethodId} {below : List Frame} {meth : Method} {c : Code} {args : Array Value} {D : va_G} {a : Nat → Nat} {cA : ClassId} (B : gw_B p s m args meth c cX6_rule 7 none RX6 gT) (C : gw_C D vwCl [(cA, .int)] (mdA a) gY s) {rv : g_S} : ∀ (x1 : Int32) (x2 : Int32) (x3 : Int32) (x4 : Int32) (x5 : Int32) (y0 : Int32) (u : g_S) (H : Heap) (locs : List Loc) (ls : Array Slot), gw_V D vwCl (mdA a) (mdW a cA) s u H locs → lv_has ls 7 [(0, .ref (a 0)), (1, .int x1), (2, .int x2), (3, .int x3), (4, .int x4), (5, .int x5)] → fm_rule_48 u x1 x2 x3 x4 x5 y0 = some rv → W p l e rmX6_rule s m args below meth c H locs 0 0 (gw_Ev D vwCl (mdA a) (mdW a cA) below args s rv) (F0 m 48 ls [.int y0]) := by
  obtain ⟨hx, hb, hml, hown, hts, hr, hlk⟩ := id B
  intro x1 x2 x3 x4 x5 y0 u H locs ls V hl h
  unfold fm_rule_48 at h
  refine lv_istore (lv' := [(6, .int y0), (0, .ref (a 0)), (1, .int x1), (2, .int x2), (3, .int x3), (4, .int x4), (5, .int x5)]) hx hb dX6_rule_48 hl (by decide) rfl (fun ls hl => ?_)
  refine lv_aload_n hx hb dX6_rule_50 rfl (lv_at hl 1 rfl) ?_
  refine lv_iload_n hx hb dX6_rule_51 rfl (lv_at hl 2 rfl) ?_
  obtain ⟨v1, hv1, h⟩ := bi_e h
  refine gw_ki V (va_runS (As := [.int x1]) (rest := [.ref (a 0)]) ⟨hx, hb, hml, hown, hts⟩ (mX6_isKind (D := D) (a := a) (cA := cA) (u := u) hv1) (cwS 1 hts gmdX6_86 rfl rfl rfl (by decide +kernel) ⟨Nat.le_of_ble_eq_true rfl, Nat.le_of_ble_eq_true rfl⟩) (gw_preS gY_ok C V [.int x1]) rfl rfl hl.1 rfl (lv_room (Nat.le_of_ble_eq_true rfl)) dX6_rule_52 ⟨Nat.zero_le _, Nat.zero_le _⟩) (fun H locs V => ?_)
  refine lv_if_ne (tgt := 62) hx hb dX6_rule_55 (by decide) (fun c2 => ?_) (fun c2 => ?_)
  · have h := if_t c2 h
    refine lv_iconst (v := (0 : Int32)) hx hb dX6_rule_62 (by decide) ?_
    exact LX6_rule_63 B C x1 x2 x3 x4 x5 y0 (0 : Int32) u _ _ _ V (lv_sub hl [1, 2, 3, 4, 5, 6, 0] rfl) h
  · have h := if_nn c2 h
    refine lv_iconst (v := (1 : Int32)) hx hb dX6_rule_58 (by decide) ?_
    refine lv_goto (tgt := 63) hx hb dX6_rule_59 (by decide) ?_
    exact LX6_rule_63 B C x1 x2 x3 x4 x5 y0 (1 : Int32) u _ _ _ V (lv_sub hl [1, 2, 3, 4, 5, 6, 0] rfl) h
set_option maxHeartbeats 4000000 in
theorem mX6_rule {l : Launch} {D : va_G} {a : Nat → Nat} {cA : ClassId} {sz : Nat} {u : g_S} {p1 : Int32} {p2 : Int32} {p3 : Int32} {p4 : Int32} {p5 : Int32} {rv : g_S} (h : fm_rule u p1 p2 p3 p4 p5 = some rv) : gw_Mv D vwCl [(cA, .int)] (mdA a) gY (mdW a cA) l yX6_rule wxX6_rule rmX6_rule sz u [.ref (a 0), .int p1, .int p2, .int p3, .int p4, .int p5] rv := by
  refine gw_Mof (Qc := fun z => va_Qv (gw_Pv rv) (gw_W D vwCl (mdW a cA)) (rg (mdA a) z)) (cc := cX6_rule) (maxL := 7) (ret := none) (by decide) rfl ?_
  intro p e s m below meth c B C V
  obtain ⟨hx, hb, hml, hown, hts, hr, hlk⟩ := id B
  have hl := lv_entry ([.ref (a 0), .int p1, .int p2, .int p3, .int p4, .int p5]) (n := 7) (Nat.le_of_ble_eq_true rfl)
  rw [lg_entry_eq]
  generalize (lg_sl ([.ref (a 0), .int p1, .int p2, .int p3, .int p4, .int p5]) ++ List.replicate (7 - (lg_sl ([.ref (a 0), .int p1, .int p2, .int p3, .int p4, .int p5])).length) Slot.unset).toArray = ls at hl ⊢
  have hl : lv_has ls 7 [(0, .ref (a 0)), (1, .int p1), (2, .int p2), (3, .int p3), (4, .int p4), (5, .int p5)] := hl
  unfold fm_rule at h
  refine lv_iload_n hx hb dX6_rule_0 rfl (lv_at hl 2 rfl) ?_
  refine lv_iconst (v := (0 : Int32)) hx hb dX6_rule_1 (by decide) ?_
  refine lv_sipush (v := (20000 : Int32)) hx hb dX6_rule_2 (by decide) ?_
  obtain ⟨v1, hv1, h⟩ := bi_e h
  refine gw_ki V (va_runS (As := [.int p2, .int (0 : Int32), .int (20000 : Int32)]) (rest := []) ⟨hx, hb, hml, hown, hts⟩ (mX6_in (D := D) (a := a) (cA := cA) (u := u) hv1) (cwS 3 hts gmdX6_74 rfl rfl rfl (by decide +kernel) ⟨Nat.le_of_ble_eq_true rfl, Nat.le_of_ble_eq_true rfl⟩) (gw_preS gY_ok C V [.int p2, .int (0 : Int32), .int (20000 : Int32)]) rfl rfl hl.1 rfl (lv_room (Nat.le_of_ble_eq_true rfl)) dX6_rule_5 ⟨Nat.zero_le _, Nat.zero_le _⟩) (fun H locs V => ?_)
  refine lv_if_eq (tgt := 43) hx hb dX6_rule_8 (by decide) (fun c2 => ?_) (fun c2 => ?_)
  · have h := if_t c2 h
    refine lv_iconst (v := (1 : Int32)) hx hb dX6_rule_43 (by decide) ?_
    refine lv_goto (tgt := 48) hx hb dX6_rule_44 (by decide) ?_
    exact LX6_rule_48 B C p1 p2 p3 p4 p5 (1 : Int32) u _ _ _ V (lv_sub hl [0, 1, 2, 3, 4, 5] rfl) h
  · have h := if_f c2 h
    refine lv_iload_n hx hb dX6_rule_11 rfl (lv_at hl 3 rfl) ?_
    refine lv_iconst (v := (0 : Int32)) hx hb dX6_rule_12 (by decide) ?_
    refine lv_ldc (v := (100000 : Int32)) hx hb hown (hts _ kt_687) dX6_rule_13 ?_
    obtain ⟨v3, hv3, h⟩ := bi_e h
    refine gw_ki V (va_runS (As := [.int p3, .int (0 : Int32), .int (100000 : Int32)]) (rest := []) ⟨hx, hb, hml, hown, hts⟩ (mX6_in (D := D) (a := a) (cA := cA) (u := u) hv3) (cwS 3 hts gmdX6_74 rfl rfl rfl (by decide +kernel) ⟨Nat.le_of_ble_eq_true rfl, Nat.le_of_ble_eq_true rfl⟩) (gw_preS gY_ok C V [.int p3, .int (0 : Int32), .int (100000 : Int32)]) rfl rfl hl.1 rfl (lv_room (Nat.le_of_ble_eq_true rfl)) dX6_rule_15 ⟨Nat.zero_le _, Nat.zero_le _⟩) (fun H locs V => ?_)
    refine lv_if_eq (tgt := 43) hx hb dX6_rule_18 (by decide) (fun c4 => ?_) (fun c4 => ?_)
    · have h := if_t c4 h
      refine lv_iconst (v := (1 : Int32)) hx hb dX6_rule_43 (by decide) ?_
      refine lv_goto (tgt := 48) hx hb dX6_rule_44 (by decide) ?_
      exact LX6_rule_48 B C p1 p2 p3 p4 p5 (1 : Int32) u _ _ _ V (lv_sub hl [0, 1, 2, 3, 4, 5] rfl) h
    · have h := if_f c4 h
      refine lv_iload hx hb dX6_rule_21 (lv_at hl 4 rfl) ?_
      refine lv_iconst (v := (0 : Int32)) hx hb dX6_rule_23 (by decide) ?_
      refine lv_bipush (v := (100 : Int32)) hx hb dX6_rule_24 (by decide) ?_
      obtain ⟨v5, hv5, h⟩ := bi_e h
      refine gw_ki V (va_runS (As := [.int p4, .int (0 : Int32), .int (100 : Int32)]) (rest := []) ⟨hx, hb, hml, hown, hts⟩ (mX6_in (D := D) (a := a) (cA := cA) (u := u) hv5) (cwS 3 hts gmdX6_74 rfl rfl rfl (by decide +kernel) ⟨Nat.le_of_ble_eq_true rfl, Nat.le_of_ble_eq_true rfl⟩) (gw_preS gY_ok C V [.int p4, .int (0 : Int32), .int (100 : Int32)]) rfl rfl hl.1 rfl (lv_room (Nat.le_of_ble_eq_true rfl)) dX6_rule_26 ⟨Nat.zero_le _, Nat.zero_le _⟩) (fun H locs V => ?_)
      refine lv_if_eq (tgt := 43) hx hb dX6_rule_29 (by decide) (fun c6 => ?_) (fun c6 => ?_)
      · have h := if_t c6 h
        refine lv_iconst (v := (1 : Int32)) hx hb dX6_rule_43 (by decide) ?_
        refine lv_goto (tgt := 48) hx hb dX6_rule_44 (by decide) ?_
        exact LX6_rule_48 B C p1 p2 p3 p4 p5 (1 : Int32) u _ _ _ V (lv_sub hl [0, 1, 2, 3, 4, 5] rfl) h
      · have h := if_f c6 h
        refine lv_iload hx hb dX6_rule_32 (lv_at hl 5 rfl) ?_
        refine lv_iconst (v := (1 : Int32)) hx hb dX6_rule_34 (by decide) ?_
        refine lv_bipush (v := (100 : Int32)) hx hb dX6_rule_35 (by decide) ?_
        obtain ⟨v7, hv7, h⟩ := bi_e h
        refine gw_ki V (va_runS (As := [.int p5, .int (1 : Int32), .int (100 : Int32)]) (rest := []) ⟨hx, hb, hml, hown, hts⟩ (mX6_in (D := D) (a := a) (cA := cA) (u := u) hv7) (cwS 3 hts gmdX6_74 rfl rfl rfl (by decide +kernel) ⟨Nat.le_of_ble_eq_true rfl, Nat.le_of_ble_eq_true rfl⟩) (gw_preS gY_ok C V [.int p5, .int (1 : Int32), .int (100 : Int32)]) rfl rfl hl.1 rfl (lv_room (Nat.le_of_ble_eq_true rfl)) dX6_rule_37 ⟨Nat.zero_le _, Nat.zero_le _⟩) (fun H locs V => ?_)
        refine lv_if_ne (tgt := 47) hx hb dX6_rule_40 (by decide) (fun c8 => ?_) (fun c8 => ?_)
        · have h := if_t c8 h
          refine lv_iconst (v := (0 : Int32)) hx hb dX6_rule_47 (by decide) ?_
          exact LX6_rule_48 B C p1 p2 p3 p4 p5 (0 : Int32) u _ _ _ V (lv_sub hl [0, 1, 2, 3, 4, 5] rfl) h
        · have h := if_nn c8 h
          refine lv_iconst (v := (1 : Int32)) hx hb dX6_rule_43 (by decide) ?_
          refine lv_goto (tgt := 48) hx hb dX6_rule_44 (by decide) ?_
          exact LX6_rule_48 B C p1 p2 p3 p4 p5 (1 : Int32) u _ _ _ V (lv_sub hl [0, 1, 2, 3, 4, 5] rfl) h
set_option maxHeartbeats 4000000 in
theorem LX6_weight_38 {p : Program} {l : Launch} {e : Env} {s : State} {m : MethodId} {below : List Frame} {meth : Method} {c : Code} {args : Array Value} {D : va_G} {a : Nat → Nat} {cA : ClassId} (B : gw_B p s m args meth c cX6_weight 4 none RX6 gT) (C : gw_C D vwCl [(cA, .int)] (mdA a) gY s) {rv : g_S} : ∀ (x1 : Int32) (x2 : Int32) (x3 : Int32) (y1 : Int32) (y2 : Int32) (u : g_S) (H : Heap) (locs : List Loc) (ls : Array Slot), gw_V D vwCl (mdA a) (mdW a cA) s u H locs → lv_has ls 4 [(0, .ref (a 0)), (1, .int x1), (2, .int x2), (3, .int x3)] → fm_weight_38 u x1 x2 x3 y1 y2 = some rv → W p l e rmX6_weight s m args below meth c H locs 0 0 (gw_Ev D vwCl (mdA a) (mdW a cA) below args s rv) (F0 m 38 ls [.int y2, .int y1, .ref (a 0)]) := by
  obtain ⟨hx, hb, hml, hown, hts, hr, hlk⟩ := id B
  intro x1 x2 x3 y1 y2 u H locs ls V hl h
  unfold fm_weight_38 at h
  refine lv_iconst (v := (0 : Int32)) hx hb dX6_weight_38 (by decide) ?_
  obtain ⟨v1, hv1, h⟩ := bi_e h
  refine gw_ki V (va_runV (As := [.int y1, .int y2, .int (0 : Int32)]) (rest := []) ⟨hx, hb, hml, hown, hts⟩ (mX6_throwing (D := D) (a := a) (cA := cA) (u := u) hv1) (cwV 3 hts gmdX6_90 rfl rfl rfl (by decide +kernel) ⟨Nat.le_of_ble_eq_true rfl, Nat.le_of_ble_eq_true rfl⟩) (gw_preV (q0 := 0) (ci := 5) gY_ok C V [.int y1, .int y2, .int (0 : Int32)] rfl rfl) rfl rfl hl.1 rfl (lv_room (Nat.le_of_ble_eq_true rfl)) dX6_weight_39 ⟨Nat.zero_le _, Nat.zero_le _⟩) (fun H locs V => ?_)
  refine lv_if_eq (tgt := 46) hx hb dX6_weight_42 (by decide) (fun c2 => ?_) (fun c2 => ?_)
  · have h := if_t c2 h
    refine lv_aload_n hx hb dX6_weight_46 rfl (lv_at hl 0 rfl) ?_
    refine va_get (C := RX6) (T := TX6) (N := 24) (ci := 5) hx hb hts igX6 hown C.1 V.1 0 rfl rfl 5 (by decide) (hts _ kt_608) (fun _ h => h) rfl dX6_weight_47 ?_
    refine lv_bipush (v := (32 : Int32)) hx hb dX6_weight_50 (by decide) ?_
    refine lv_iload_n hx hb dX6_weight_52 rfl (lv_at hl 1 rfl) ?_
    refine lv_imul hx hb dX6_weight_53 ?_
    refine lv_iload_n hx hb dX6_weight_54 rfl (lv_at hl 2 rfl) ?_
    refine lv_iadd hx hb dX6_weight_55 ?_
    refine lv_iload_n hx hb dX6_weight_56 rfl (lv_at hl 3 rfl) ?_
    obtain ⟨i3, h⟩ := ck_e h
    obtain ⟨u4, eu4, h⟩ := gl_e h
    refine gw_iast (u' := u4) hx hb (mdW_as a cA) C V 5 0 rfl rfl i3 (mdS_4 _ _ _ _ _ _ eu4) dX6_weight_57 (fun H locs V => ?_)
    exact gw_retv hx hb hr hlk V (Option.some.inj h) dX6_weight_58
  · have h := if_f c2 h
    exact gw_retv hx hb hr hlk V (Option.some.inj h) dX6_weight_45
set_option maxHeartbeats 4000000 in
theorem LX6_weight_23 {p : Program} {l : Launch} {e : Env} {s : State} {m : MethodId} {below : List Frame} {meth : Method} {c : Code} {args : Array Value} {D : va_G} {a : Nat → Nat} {cA : ClassId} (B : gw_B p s m args meth c cX6_weight 4 none RX6 gT) (C : gw_C D vwCl [(cA, .int)] (mdA a) gY s) {rv : g_S} : ∀ (x1 : Int32) (x2 : Int32) (x3 : Int32) (y1 : Int32) (u : g_S) (H : Heap) (locs : List Loc) (ls : Array Slot), gw_V D vwCl (mdA a) (mdW a cA) s u H locs → lv_has ls 4 [(0, .ref (a 0)), (1, .int x1), (2, .int x2), (3, .int x3)] → fm_weight_23 u x1 x2 x3 y1 = some rv → W p l e rmX6_weight s m args below meth c H locs 0 0 (gw_Ev D vwCl (mdA a) (mdW a cA) below args s rv) (F0 m 23 ls [.int y1, .ref (a 0)]) := by
  obtain ⟨hx, hb, hml, hown, hts, hr, hlk⟩ := id B
  intro x1 x2 x3 y1 u H locs ls V hl h
  unfold fm_weight_23 at h
  refine lv_iload_n hx hb dX6_weight_23 rfl (lv_at hl 3 rfl) ?_
  refine lv_iconst (v := (0 : Int32)) hx hb dX6_weight_24 (by decide) ?_
  refine lv_bipush (v := (100 : Int32)) hx hb dX6_weight_25 (by decide) ?_
  obtain ⟨v1, hv1, h⟩ := bi_e h
  refine gw_ki V (va_runS (As := [.int x3, .int (0 : Int32), .int (100 : Int32)]) (rest := [.int y1, .ref (a 0)]) ⟨hx, hb, hml, hown, hts⟩ (mX6_in (D := D) (a := a) (cA := cA) (u := u) hv1) (cwS 3 hts gmdX6_74 rfl rfl rfl (by decide +kernel) ⟨Nat.le_of_ble_eq_true rfl, Nat.le_of_ble_eq_true rfl⟩) (gw_preS gY_ok C V [.int x3, .int (0 : Int32), .int (100 : Int32)]) rfl rfl hl.1 rfl (lv_room (Nat.le_of_ble_eq_true rfl)) dX6_weight_27 ⟨Nat.zero_le _, Nat.zero_le _⟩) (fun H locs V => ?_)
  refine lv_if_ne (tgt := 37) hx hb dX6_weight_30 (by decide) (fun c2 => ?_) (fun c2 => ?_)
  · have h := if_t c2 h
    refine lv_iconst (v := (0 : Int32)) hx hb dX6_weight_37 (by decide) ?_
    exact LX6_weight_38 B C x1 x2 x3 y1 (0 : Int32) u _ _ _ V (lv_sub hl [0, 1, 2, 3] rfl) h
  · have h := if_nn c2 h
    refine lv_iconst (v := (1 : Int32)) hx hb dX6_weight_33 (by decide) ?_
    refine lv_goto (tgt := 38) hx hb dX6_weight_34 (by decide) ?_
    exact LX6_weight_38 B C x1 x2 x3 y1 (1 : Int32) u _ _ _ V (lv_sub hl [0, 1, 2, 3] rfl) h
set_option maxHeartbeats 4000000 in
theorem mX6_weight {l : Launch} {D : va_G} {a : Nat → Nat} {cA : ClassId} {sz : Nat} {u : g_S} {p1 : Int32} {p2 : Int32} {p3 : Int32} {rv : g_S} (h : fm_weight u p1 p2 p3 = some rv) : gw_Mv D vwCl [(cA, .int)] (mdA a) gY (mdW a cA) l yX6_weight wxX6_weight rmX6_weight sz u [.ref (a 0), .int p1, .int p2, .int p3] rv := by
  refine gw_Mof (Qc := fun z => va_Qv (gw_Pv rv) (gw_W D vwCl (mdW a cA)) (rg (mdA a) z)) (cc := cX6_weight) (maxL := 4) (ret := none) (by decide) rfl ?_
  intro p e s m below meth c B C V
  obtain ⟨hx, hb, hml, hown, hts, hr, hlk⟩ := id B
  have hl := lv_entry ([.ref (a 0), .int p1, .int p2, .int p3]) (n := 4) (Nat.le_of_ble_eq_true rfl)
  rw [lg_entry_eq]
  generalize (lg_sl ([.ref (a 0), .int p1, .int p2, .int p3]) ++ List.replicate (4 - (lg_sl ([.ref (a 0), .int p1, .int p2, .int p3])).length) Slot.unset).toArray = ls at hl ⊢
  have hl : lv_has ls 4 [(0, .ref (a 0)), (1, .int p1), (2, .int p2), (3, .int p3)] := hl
  unfold fm_weight at h
  refine lv_aload_n hx hb dX6_weight_0 rfl (lv_at hl 0 rfl) ?_
  refine lv_iload_n hx hb dX6_weight_1 rfl (lv_at hl 1 rfl) ?_
  obtain ⟨v1, hv1, h⟩ := bi_e h
  refine gw_ki V (va_runS (As := [.int p1]) (rest := [.ref (a 0)]) ⟨hx, hb, hml, hown, hts⟩ (mX6_isKind (D := D) (a := a) (cA := cA) (u := u) hv1) (cwS 1 hts gmdX6_86 rfl rfl rfl (by decide +kernel) ⟨Nat.le_of_ble_eq_true rfl, Nat.le_of_ble_eq_true rfl⟩) (gw_preS gY_ok C V [.int p1]) rfl rfl hl.1 rfl (lv_room (Nat.le_of_ble_eq_true rfl)) dX6_weight_2 ⟨Nat.zero_le _, Nat.zero_le _⟩) (fun H locs V => ?_)
  refine lv_if_eq (tgt := 18) hx hb dX6_weight_5 (by decide) (fun c2 => ?_) (fun c2 => ?_)
  · have h := if_t c2 h
    refine lv_iconst (v := (1 : Int32)) hx hb dX6_weight_18 (by decide) ?_
    refine lv_goto (tgt := 23) hx hb dX6_weight_19 (by decide) ?_
    exact LX6_weight_23 B C p1 p2 p3 (1 : Int32) u _ _ _ V (lv_sub hl [0, 1, 2, 3] rfl) h
  · have h := if_f c2 h
    refine lv_iload_n hx hb dX6_weight_8 rfl (lv_at hl 2 rfl) ?_
    refine lv_iconst (v := (0 : Int32)) hx hb dX6_weight_9 (by decide) ?_
    refine lv_bipush (v := (31 : Int32)) hx hb dX6_weight_10 (by decide) ?_
    obtain ⟨v3, hv3, h⟩ := bi_e h
    refine gw_ki V (va_runS (As := [.int p2, .int (0 : Int32), .int (31 : Int32)]) (rest := [.ref (a 0)]) ⟨hx, hb, hml, hown, hts⟩ (mX6_in (D := D) (a := a) (cA := cA) (u := u) hv3) (cwS 3 hts gmdX6_74 rfl rfl rfl (by decide +kernel) ⟨Nat.le_of_ble_eq_true rfl, Nat.le_of_ble_eq_true rfl⟩) (gw_preS gY_ok C V [.int p2, .int (0 : Int32), .int (31 : Int32)]) rfl rfl hl.1 rfl (lv_room (Nat.le_of_ble_eq_true rfl)) dX6_weight_12 ⟨Nat.zero_le _, Nat.zero_le _⟩) (fun H locs V => ?_)
    refine lv_if_ne (tgt := 22) hx hb dX6_weight_15 (by decide) (fun c4 => ?_) (fun c4 => ?_)
    · have h := if_t c4 h
      refine lv_iconst (v := (0 : Int32)) hx hb dX6_weight_22 (by decide) ?_
      exact LX6_weight_23 B C p1 p2 p3 (0 : Int32) u _ _ _ V (lv_sub hl [0, 1, 2, 3] rfl) h
    · have h := if_nn c4 h
      refine lv_iconst (v := (1 : Int32)) hx hb dX6_weight_18 (by decide) ?_
      refine lv_goto (tgt := 23) hx hb dX6_weight_19 (by decide) ?_
      exact LX6_weight_23 B C p1 p2 p3 (1 : Int32) u _ _ _ V (lv_sub hl [0, 1, 2, 3] rfl) h
