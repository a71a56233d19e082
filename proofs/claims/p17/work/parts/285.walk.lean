set_option maxHeartbeats 4000000 in
theorem LX6_reasonFor_31 {p : Program} {l : Launch} {e : Env} {s : State} {m : MethodId} {below : List Frame} {meth : Method} {c : Code} {args : Array Value} {D : va_G} {a : Nat → Nat} {cA : ClassId} (B : gw_B p s m args meth c cX6_reasonFor 7 (some .int) RX6 gT) (C : gw_C D vwCl [(cA, .int)] (mdA a) gY s) {rv : Int32 × g_S} : ∀ (x1 : Int32) (x2 : Int32) (x3 : Int32) (x4 : Int32) (x5 : Int32) (x6 : Int32) (y1 : Int32) (y2 : Int32) (u : g_S) (H : Heap) (locs : List Loc) (ls : Array Slot), gw_V D vwCl (mdA a) (mdW a cA) s u H locs → lv_has ls 7 [(0, .ref (a 0)), (1, .int x1), (2, .int x2), (3, .int x3), (4, .int x4), (5, .int x5), (6, .int x6)] → fm_reasonFor_31 u x1 x2 x3 x4 x5 x6 y1 y2 = some rv → W p l e rmX6_reasonFor s m args below meth c H locs 0 0 (gw_Ei D vwCl (mdA a) (mdW a cA) below args s rv.1 rv.2) (F0 m 31 ls [.int y2, .int y1, .ref (a 0)]) := by
  obtain ⟨hx, hb, hml, hown, hts, hr, hlk⟩ := id B
  intro x1 x2 x3 x4 x5 x6 y1 y2 u H locs ls V hl h
  unfold fm_reasonFor_31 at h
  refine lv_iconst (v := (0 : Int32)) hx hb dX6_reasonFor_31 (by decide) ?_
  obtain ⟨v1, hv1, h⟩ := bi_e h
  refine gw_ki V (va_runV (As := [.int y1, .int y2, .int (0 : Int32)]) (rest := []) ⟨hx, hb, hml, hown, hts⟩ (mX6_throwing (D := D) (a := a) (cA := cA) (u := u) hv1) (cwV 3 hts gmdX6_90 rfl rfl rfl (by decide +kernel) ⟨Nat.le_of_ble_eq_true rfl, Nat.le_of_ble_eq_true rfl⟩) (gw_preV (q0 := 0) (ci := 5) gY_ok C V [.int y1, .int y2, .int (0 : Int32)] rfl rfl) rfl rfl hl.1 rfl (lv_room (Nat.le_of_ble_eq_true rfl)) dX6_reasonFor_32 ⟨Nat.zero_le _, Nat.zero_le _⟩) (fun H locs V => ?_)
  refine lv_if_eq (tgt := 40) hx hb dX6_reasonFor_35 (by decide) (fun c2 => ?_) (fun c2 => ?_)
  · have h := if_t c2 h
    refine lv_aload_n hx hb dX6_reasonFor_40 rfl (lv_at hl 0 rfl) ?_
    refine lv_iload_n hx hb dX6_reasonFor_41 rfl (lv_at hl 1 rfl) ?_
    refine lv_iload_n hx hb dX6_reasonFor_42 rfl (lv_at hl 2 rfl) ?_
    refine lv_iload_n hx hb dX6_reasonFor_43 rfl (lv_at hl 3 rfl) ?_
    refine lv_iload hx hb dX6_reasonFor_44 (lv_at hl 4 rfl) ?_
    refine lv_iload hx hb dX6_reasonFor_46 (lv_at hl 5 rfl) ?_
    refine lv_iload hx hb dX6_reasonFor_48 (lv_at hl 6 rfl) ?_
    obtain ⟨v3, hv3, h⟩ := bi_e h
    refine gw_ki V (va_runV (As := [.int x1, .int x2, .int x3, .int x4, .int x5, .int x6]) (rest := []) ⟨hx, hb, hml, hown, hts⟩ (mX6_reason (D := D) (a := a) (cA := cA) (u := v1.2) hv3) (cwV 6 hts gmdX6_159 rfl rfl rfl (by decide +kernel) ⟨Nat.le_of_ble_eq_true rfl, Nat.le_of_ble_eq_true rfl⟩) (gw_preV (q0 := 0) (ci := 5) gY_ok C V [.int x1, .int x2, .int x3, .int x4, .int x5, .int x6] rfl rfl) rfl rfl hl.1 rfl (lv_room (Nat.le_of_ble_eq_true rfl)) dX6_reasonFor_50 ⟨Nat.zero_le _, Nat.zero_le _⟩) (fun H locs V => ?_)
    exact gw_reti hx hb hr rfl hlk V (in2a h) (in2b h) dX6_reasonFor_53
  · have h := if_f c2 h
    refine lv_iconst (v := (0 : Int32)) hx hb dX6_reasonFor_38 (by decide) ?_
    exact gw_reti hx hb hr rfl hlk V (in2a h) (in2b h) dX6_reasonFor_39
set_option maxHeartbeats 4000000 in
theorem LX6_reasonFor_15 {p : Program} {l : Launch} {e : Env} {s : State} {m : MethodId} {below : List Frame} {meth : Method} {c : Code} {args : Array Value} {D : va_G} {a : Nat → Nat} {cA : ClassId} (B : gw_B p s m args meth c cX6_reasonFor 7 (some .int) RX6 gT) (C : gw_C D vwCl [(cA, .int)] (mdA a) gY s) {rv : Int32 × g_S} : ∀ (x1 : Int32) (x2 : Int32) (x3 : Int32) (x4 : Int32) (x5 : Int32) (x6 : Int32) (y1 : Int32) (u : g_S) (H : Heap) (locs : List Loc) (ls : Array Slot), gw_V D vwCl (mdA a) (mdW a cA) s u H locs → lv_has ls 7 [(0, .ref (a 0)), (1, .int x1), (2, .int x2), (3, .int x3), (4, .int x4), (5, .int x5), (6, .int x6)] → fm_reasonFor_15 u x1 x2 x3 x4 x5 x6 y1 = some rv → W p l e rmX6_reasonFor s m args below meth c H locs 0 0 (gw_Ei D vwCl (mdA a) (mdW a cA) below args s rv.1 rv.2) (F0 m 15 ls [.int y1, .ref (a 0)]) := by
  obtain ⟨hx, hb, hml, hown, hts, hr, hlk⟩ := id B
  intro x1 x2 x3 x4 x5 x6 y1 u H locs ls V hl h
  unfold fm_reasonFor_15 at h
  refine lv_aload_n hx hb dX6_reasonFor_15 rfl (lv_at hl 0 rfl) ?_
  refine lv_iload_n hx hb dX6_reasonFor_16 rfl (lv_at hl 1 rfl) ?_
  refine lv_iload_n hx hb dX6_reasonFor_17 rfl (lv_at hl 3 rfl) ?_
  refine lv_iload hx hb dX6_reasonFor_18 (lv_at hl 6 rfl) ?_
  obtain ⟨v1, hv1, h⟩ := bi_e h
  refine gw_ki V (va_runV (As := [.int x1, .int x3, .int x6]) (rest := [.int y1, .ref (a 0)]) ⟨hx, hb, hml, hown, hts⟩ (mX6_isRange (D := D) (a := a) (cA := cA) (u := u) hv1) (cwV 3 hts gmdX6_156 rfl rfl rfl (by decide +kernel) ⟨Nat.le_of_ble_eq_true rfl, Nat.le_of_ble_eq_true rfl⟩) (gw_preV (q0 := 0) (ci := 5) gY_ok C V [.int x1, .int x3, .int x6] rfl rfl) rfl rfl hl.1 rfl (lv_room (Nat.le_of_ble_eq_true rfl)) dX6_reasonFor_20 ⟨Nat.zero_le _, Nat.zero_le _⟩) (fun H locs V => ?_)
  refine lv_if_ne (tgt := 30) hx hb dX6_reasonFor_23 (by decide) (fun c2 => ?_) (fun c2 => ?_)
  · have h := if_t c2 h
    refine lv_iconst (v := (0 : Int32)) hx hb dX6_reasonFor_30 (by decide) ?_
    exact LX6_reasonFor_31 B C x1 x2 x3 x4 x5 x6 y1 (0 : Int32) u _ _ _ V (lv_sub hl [0, 1, 2, 3, 4, 5, 6] rfl) h
  · have h := if_nn c2 h
    refine lv_iconst (v := (1 : Int32)) hx hb dX6_reasonFor_26 (by decide) ?_
    refine lv_goto (tgt := 31) hx hb dX6_reasonFor_27 (by decide) ?_
    exact LX6_reasonFor_31 B C x1 x2 x3 x4 x5 x6 y1 (1 : Int32) u _ _ _ V (lv_sub hl [0, 1, 2, 3, 4, 5, 6] rfl) h
set_option maxHeartbeats 4000000 in
theorem mX6_reasonFor {l : Launch} {D : va_G} {a : Nat → Nat} {cA : ClassId} {sz : Nat} {u : g_S} {p1 : Int32} {p2 : Int32} {p3 : Int32} {p4 : Int32} {p5 : Int32} {p6 : Int32} {rv : Int32 × g_S} (h : fm_reasonFor u p1 p2 p3 p4 p5 p6 = some rv) : gw_Mi D vwCl [(cA, .int)] (mdA a) gY (mdW a cA) l yX6_reasonFor wxX6_reasonFor rmX6_reasonFor sz u [.ref (a 0), .int p1, .int p2, .int p3, .int p4, .int p5, .int p6] rv.1 rv.2 := by
  refine gw_Mof (Qc := fun z => va_Qi (gw_Pi rv.1 rv.2) (gw_W D vwCl (mdW a cA)) (rg (mdA a) z)) (cc := cX6_reasonFor) (maxL := 7) (ret := (some .int)) (by decide) rfl ?_
  intro p e s m below meth c B C V
  obtain ⟨hx, hb, hml, hown, hts, hr, hlk⟩ := id B
  have hl := lv_entry ([.ref (a 0), .int p1, .int p2, .int p3, .int p4, .int p5, .int p6]) (n := 7) (Nat.le_of_ble_eq_true rfl)
  rw [lg_entry_eq]
  generalize (lg_sl ([.ref (a 0), .int p1, .int p2, .int p3, .int p4, .int p5, .int p6]) ++ List.replicate (7 - (lg_sl ([.ref (a 0), .int p1, .int p2, .int p3, .int p4, .int p5, .int p6])).length) Slot.unset).toArray = ls at hl ⊢
  have hl : lv_has ls 7 [(0, .ref (a 0)), (1, .int p1), (2, .int p2), (3, .int p3), (4, .int p4), (5, .int p5), (6, .int p6)] := hl
  unfold fm_reasonFor at h
  refine lv_aload_n hx hb dX6_reasonFor_0 rfl (lv_at hl 0 rfl) ?_
  refine lv_iload_n hx hb dX6_reasonFor_1 rfl (lv_at hl 2 rfl) ?_
  refine lv_iload hx hb dX6_reasonFor_2 (lv_at hl 5 rfl) ?_
  obtain ⟨v1, hv1, h⟩ := bi_e h
  refine gw_ki V (va_runS (As := [.int p2, .int p5]) (rest := [.ref (a 0)]) ⟨hx, hb, hml, hown, hts⟩ (mX6_isKnown (D := D) (a := a) (cA := cA) (u := u) hv1) (cwS 2 hts gmdX6_152 rfl rfl rfl (by decide +kernel) ⟨Nat.le_of_ble_eq_true rfl, Nat.le_of_ble_eq_true rfl⟩) (gw_preS gY_ok C V [.int p2, .int p5]) rfl rfl hl.1 rfl (lv_room (Nat.le_of_ble_eq_true rfl)) dX6_reasonFor_4 ⟨Nat.zero_le _, Nat.zero_le _⟩) (fun H locs V => ?_)
  refine lv_if_ne (tgt := 14) hx hb dX6_reasonFor_7 (by decide) (fun c2 => ?_) (fun c2 => ?_)
  · have h := if_t c2 h
    refine lv_iconst (v := (0 : Int32)) hx hb dX6_reasonFor_14 (by decide) ?_
    exact LX6_reasonFor_15 B C p1 p2 p3 p4 p5 p6 (0 : Int32) u _ _ _ V (lv_sub hl [0, 1, 2, 3, 4, 5, 6] rfl) h
  · have h := if_nn c2 h
    refine lv_iconst (v := (1 : Int32)) hx hb dX6_reasonFor_10 (by decide) ?_
    refine lv_goto (tgt := 15) hx hb dX6_reasonFor_11 (by decide) ?_
    exact LX6_reasonFor_15 B C p1 p2 p3 p4 p5 p6 (1 : Int32) u _ _ _ V (lv_sub hl [0, 1, 2, 3, 4, 5, 6] rfl) h
set_option maxHeartbeats 4000000 in
theorem LX6_mark_29 {p : Program} {l : Launch} {e : Env} {s : State} {m : MethodId} {below : List Frame} {meth : Method} {c : Code} {args : Array Value} {D : va_G} {a : Nat → Nat} {cA : ClassId} (B : gw_B p s m args meth c cX6_mark 3 none RX6 gT) (C : gw_C D vwCl [(cA, .int)] (mdA a) gY s) {rv : g_S} : ∀ (x1 : Int32) (x2 : Int32) (y1 : Int32) (y2 : Int32) (u : g_S) (H : Heap) (locs : List Loc) (ls : Array Slot), gw_V D vwCl (mdA a) (mdW a cA) s u H locs → lv_has ls 3 [(0, .ref (a 0)), (1, .int x1), (2, .int x2)] → fm_mark_29 u x1 x2 y1 y2 = some rv → W p l e rmX6_mark s m args below meth c H locs 0 0 (gw_Ev D vwCl (mdA a) (mdW a cA) below args s rv) (F0 m 29 ls [.int y2, .int y1, .ref (a 0)]) := by
  obtain ⟨hx, hb, hml, hown, hts, hr, hlk⟩ := id B
  intro x1 x2 y1 y2 u H locs ls V hl h
  unfold fm_mark_29 at h
  refine lv_iconst (v := (0 : Int32)) hx hb dX6_mark_29 (by decide) ?_
  obtain ⟨v1, hv1, h⟩ := bi_e h
  refine gw_ki V (va_runV (As := [.int y1, .int y2, .int (0 : Int32)]) (rest := []) ⟨hx, hb, hml, hown, hts⟩ (mX6_throwing (D := D) (a := a) (cA := cA) (u := u) hv1) (cwV 3 hts gmdX6_90 rfl rfl rfl (by decide +kernel) ⟨Nat.le_of_ble_eq_true rfl, Nat.le_of_ble_eq_true rfl⟩) (gw_preV (q0 := 0) (ci := 5) gY_ok C V [.int y1, .int y2, .int (0 : Int32)] rfl rfl) rfl rfl hl.1 rfl (lv_room (Nat.le_of_ble_eq_true rfl)) dX6_mark_30 ⟨Nat.zero_le _, Nat.zero_le _⟩) (fun H locs V => ?_)
  refine lv_if_eq (tgt := 37) hx hb dX6_mark_33 (by decide) (fun c2 => ?_) (fun c2 => ?_)
  · have h := if_t c2 h
    refine lv_aload_n hx hb dX6_mark_37 rfl (lv_at hl 0 rfl) ?_
    refine va_get (C := RX6) (T := TX6) (N := 24) (ci := 5) hx hb hts igX6 hown C.1 V.1 0 rfl rfl 17 (by decide) (hts _ kt_620) (fun _ h => h) rfl dX6_mark_38 ?_
    refine lv_iload_n hx hb dX6_mark_41 rfl (lv_at hl 1 rfl) ?_
    refine lv_iload_n hx hb dX6_mark_42 rfl (lv_at hl 2 rfl) ?_
    obtain ⟨i3, h⟩ := ck_e h
    obtain ⟨u4, eu4, h⟩ := gl_e h
    refine gw_iast (u' := u4) hx hb (mdW_as a cA) C V 15 0 rfl rfl i3 (mdS_14 _ _ _ _ _ _ eu4) dX6_mark_43 (fun H locs V => ?_)
    exact gw_retv hx hb hr hlk V (Option.some.inj h) dX6_mark_44
  · have h := if_f c2 h
    exact gw_retv hx hb hr hlk V (Option.some.inj h) dX6_mark_36
set_option maxHeartbeats 4000000 in
theorem LX6_mark_14 {p : Program} {l : Launch} {e : Env} {s : State} {m : MethodId} {below : List Frame} {meth : Method} {c : Code} {args : Array Value} {D : va_G} {a : Nat → Nat} {cA : ClassId} (B : gw_B p s m args meth c cX6_mark 3 none RX6 gT) (C : gw_C D vwCl [(cA, .int)] (mdA a) gY s) {rv : g_S} : ∀ (x1 : Int32) (x2 : Int32) (y1 : Int32) (u : g_S) (H : Heap) (locs : List Loc) (ls : Array Slot), gw_V D vwCl (mdA a) (mdW a cA) s u H locs → lv_has ls 3 [(0, .ref (a 0)), (1, .int x1), (2, .int x2)] → fm_mark_14 u x1 x2 y1 = some rv → W p l e rmX6_mark s m args below meth c H locs 0 0 (gw_Ev D vwCl (mdA a) (mdW a cA) below args s rv) (F0 m 14 ls [.int y1, .ref (a 0)]) := by
  obtain ⟨hx, hb, hml, hown, hts, hr, hlk⟩ := id B
  intro x1 x2 y1 u H locs ls V hl h
  unfold fm_mark_14 at h
  refine lv_iload_n hx hb dX6_mark_14 rfl (lv_at hl 2 rfl) ?_
  refine lv_iconst (v := (0 : Int32)) hx hb dX6_mark_15 (by decide) ?_
  refine lv_bipush (v := (7 : Int32)) hx hb dX6_mark_16 (by decide) ?_
  obtain ⟨v1, hv1, h⟩ := bi_e h
  refine gw_ki V (va_runS (As := [.int x2, .int (0 : Int32), .int (7 : Int32)]) (rest := [.int y1, .ref (a 0)]) ⟨hx, hb, hml, hown, hts⟩ (mX6_in (D := D) (a := a) (cA := cA) (u := u) hv1) (cwS 3 hts gmdX6_74 rfl rfl rfl (by decide +kernel) ⟨Nat.le_of_ble_eq_true rfl, Nat.le_of_ble_eq_true rfl⟩) (gw_preS gY_ok C V [.int x2, .int (0 : Int32), .int (7 : Int32)]) rfl rfl hl.1 rfl (lv_room (Nat.le_of_ble_eq_true rfl)) dX6_mark_18 ⟨Nat.zero_le _, Nat.zero_le _⟩) (fun H locs V => ?_)
  refine lv_if_ne (tgt := 28) hx hb dX6_mark_21 (by decide) (fun c2 => ?_) (fun c2 => ?_)
  · have h := if_t c2 h
    refine lv_iconst (v := (0 : Int32)) hx hb dX6_mark_28 (by decide) ?_
    exact LX6_mark_29 B C x1 x2 y1 (0 : Int32) u _ _ _ V (lv_sub hl [0, 1, 2] rfl) h
  · have h := if_nn c2 h
    refine lv_iconst (v := (1 : Int32)) hx hb dX6_mark_24 (by decide) ?_
    refine lv_goto (tgt := 29) hx hb dX6_mark_25 (by decide) ?_
    exact LX6_mark_29 B C x1 x2 y1 (1 : Int32) u _ _ _ V (lv_sub hl [0, 1, 2] rfl) h
set_option maxHeartbeats 4000000 in
theorem mX6_mark {l : Launch} {D : va_G} {a : Nat → Nat} {cA : ClassId} {sz : Nat} {u : g_S} {p1 : Int32} {p2 : Int32} {rv : g_S} (h : fm_mark u p1 p2 = some rv) : gw_Mv D vwCl [(cA, .int)] (mdA a) gY (mdW a cA) l yX6_mark wxX6_mark rmX6_mark sz u [.ref (a 0), .int p1, .int p2] rv := by
  refine gw_Mof (Qc := fun z => va_Qv (gw_Pv rv) (gw_W D vwCl (mdW a cA)) (rg (mdA a) z)) (cc := cX6_mark) (maxL := 3) (ret := none) (by decide) rfl ?_
  intro p e s m below meth c B C V
  obtain ⟨hx, hb, hml, hown, hts, hr, hlk⟩ := id B
  have hl := lv_entry ([.ref (a 0), .int p1, .int p2]) (n := 3) (Nat.le_of_ble_eq_true rfl)
  rw [lg_entry_eq]
  generalize (lg_sl ([.ref (a 0), .int p1, .int p2]) ++ List.replicate (3 - (lg_sl ([.ref (a 0), .int p1, .int p2])).length) Slot.unset).toArray = ls at hl ⊢
  have hl : lv_has ls 3 [(0, .ref (a 0)), (1, .int p1), (2, .int p2)] := hl
  unfold fm_mark at h
  refine lv_aload_n hx hb dX6_mark_0 rfl (lv_at hl 0 rfl) ?_
  refine lv_aload_n hx hb dX6_mark_1 rfl (lv_at hl 0 rfl) ?_
  refine lv_iload_n hx hb dX6_mark_2 rfl (lv_at hl 1 rfl) ?_
  obtain ⟨v1, hv1, h⟩ := bi_e h
  refine gw_ki V (va_runV (As := [.int p1]) (rest := [.ref (a 0)]) ⟨hx, hb, hml, hown, hts⟩ (mX6_isCall (D := D) (a := a) (cA := cA) (u := u) hv1) (cwV 1 hts gmdX6_167 rfl rfl rfl (by decide +kernel) ⟨Nat.le_of_ble_eq_true rfl, Nat.le_of_ble_eq_true rfl⟩) (gw_preV (q0 := 0) (ci := 5) gY_ok C V [.int p1] rfl rfl) rfl rfl hl.1 rfl (lv_room (Nat.le_of_ble_eq_true rfl)) dX6_mark_3 ⟨Nat.zero_le _, Nat.zero_le _⟩) (fun H locs V => ?_)
  refine lv_if_ne (tgt := 13) hx hb dX6_mark_6 (by decide) (fun c2 => ?_) (fun c2 => ?_)
  · have h := if_t c2 h
    refine lv_iconst (v := (0 : Int32)) hx hb dX6_mark_13 (by decide) ?_
    exact LX6_mark_14 B C p1 p2 (0 : Int32) u _ _ _ V (lv_sub hl [0, 1, 2] rfl) h
  · have h := if_nn c2 h
    refine lv_iconst (v := (1 : Int32)) hx hb dX6_mark_9 (by decide) ?_
    refine lv_goto (tgt := 14) hx hb dX6_mark_10 (by decide) ?_
    exact LX6_mark_14 B C p1 p2 (1 : Int32) u _ _ _ V (lv_sub hl [0, 1, 2] rfl) h
set_option maxHeartbeats 4000000 in
theorem LX6_split_124 {p : Program} {l : Launch} {e : Env} {s : State} {m : MethodId} {below : List Frame} {meth : Method} {c : Code} {args : Array Value} {D : va_G} {a : Nat → Nat} {cA : ClassId} (B : gw_B p s m args meth c cX6_split 8 (some .int) RX6 gT) (C : gw_C D vwCl [(cA, .int)] (mdA a) gY s) {rv : Int32 × g_S} {k113 : g_S → Int32 → Int32 → Int32 → Option (Int32 × g_S)} (hk113 : ∀ (x4 : Int32) (x5 : Int32) (x6 : Int32) (u : g_S) (H : Heap) (locs : List Loc) (ls : Array Slot), gw_V D vwCl (mdA a) (mdW a cA) s u H locs → lv_has ls 8 [(0, .ref (a 0)), (4, .int x4), (5, .int x5), (6, .int x6)] → k113 u x4 x5 x6 = some rv → W p l e rmX6_split s m args below meth c H locs 0 0 (gw_Ei D vwCl (mdA a) (mdW a cA) below args s rv.1 rv.2) (F0 m 113 ls [])) : ∀ (n : Nat) (x4 : Int32) (x5 : Int32) (x6 : Int32) (x7 : Int32) (u : g_S) (H : Heap) (locs : List Loc) (ls : Array Slot), gw_V D vwCl (mdA a) (mdW a cA) s u H locs → lv_has ls 8 [(0, .ref (a 0)), (4, .int x4), (5, .int x5), (6, .int x6), (7, .int x7)] → fm_split_124 k113 n u x4 x5 x6 x7 = some rv → W p l e rmX6_split s m args below meth c H locs 0 0 (gw_Ei D vwCl (mdA a) (mdW a cA) below args s rv.1 rv.2) (F0 m 124 ls []) := by
  obtain ⟨hx, hb, hml, hown, hts, hr, hlk⟩ := id B
  intro n
  induction n with
  | zero =>
    intro x4 x5 x6 x7 u H locs ls V hl h
    cases h
  | succ n ih =>
    intro x4 x5 x6 x7 u H locs ls V hl h
    rw [fm_split_124_s] at h
    refine lv_iload hx hb dX6_split_124 (lv_at hl 4 rfl) ?_
    refine lv_aload_n hx hb dX6_split_126 rfl (lv_at hl 0 rfl) ?_
    refine va_get (C := RX6) (T := TX6) (N := 24) (ci := 5) hx hb hts igX6 hown C.1 V.1 0 rfl rfl 8 (by decide) (hts _ kt_611) (fun _ h => h) rfl dX6_split_127 ?_
    refine lv_icmp_ge (tgt := 190) hx hb dX6_split_130 (by decide) (fun c1 => ?_) (fun c1 => ?_)
    · have h := if_t c1 h
      refine lv_goto (tgt := 113) hx hb dX6_split_190 (by decide) ?_
      exact hk113 x4 x5 x6 u _ _ _ V (lv_sub hl [0, 1, 2, 3] rfl) h
    · have h := if_f c1 h
      refine lv_aload_n hx hb dX6_split_133 rfl (lv_at hl 0 rfl) ?_
      refine va_get (C := RX6) (T := TX6) (N := 24) (ci := 5) hx hb hts igX6 hown C.1 V.1 0 rfl rfl 15 (by decide) (hts _ kt_618) (fun _ h => h) rfl dX6_split_134 ?_
      refine lv_iload hx hb dX6_split_137 (lv_at hl 4 rfl) ?_
      obtain ⟨i2, h⟩ := ck_e h
      refine va_iald hx hb C.1 V.1 13 0 rfl rfl i2 dX6_split_139 ?_
      refine lv_iload hx hb dX6_split_140 (lv_at hl 2 rfl) ?_
      refine lv_icmp_ne (tgt := 184) hx hb dX6_split_142 (by decide) (fun c3 => ?_) (fun c3 => ?_)
      · have h := if_t c3 h
        refine lv_iinc (v := (x7 + (1 : Int32))) (lv' := [(7, .int (x7 + (1 : Int32))), (0, .ref (a 0)), (4, .int x4), (5, .int x5), (6, .int x6)]) hx hb dX6_split_184 hl (k := 4) rfl rfl (by decide) rfl (fun ls hl => ?_)
        refine lv_goto (tgt := 124) hx hb dX6_split_187 (by decide) ?_
        exact ih x4 x5 x6 (x7 + (1 : Int32)) u _ _ _ V (lv_sub hl [1, 2, 3, 4, 0] rfl) h
      · have h := if_nn c3 h
        refine lv_aload_n hx hb dX6_split_145 rfl (lv_at hl 0 rfl) ?_
        refine va_get (C := RX6) (T := TX6) (N := 24) (ci := 5) hx hb hts igX6 hown C.1 V.1 0 rfl rfl 16 (by decide) (hts _ kt_619) (fun _ h => h) rfl dX6_split_146 ?_
        refine lv_iload hx hb dX6_split_149 (lv_at hl 4 rfl) ?_
        obtain ⟨i4, h⟩ := ck_e h
        refine va_iald hx hb C.1 V.1 14 0 rfl rfl i4 dX6_split_151 ?_
        refine lv_if_lt (tgt := 184) hx hb dX6_split_152 (by decide) (fun c5 => ?_) (fun c5 => ?_)
        · have h := if_t c5 h
          refine lv_iinc (v := (x7 + (1 : Int32))) (lv' := [(7, .int (x7 + (1 : Int32))), (0, .ref (a 0)), (4, .int x4), (5, .int x5), (6, .int x6)]) hx hb dX6_split_184 hl (k := 4) rfl rfl (by decide) rfl (fun ls hl => ?_)
          refine lv_goto (tgt := 124) hx hb dX6_split_187 (by decide) ?_
          exact ih x4 x5 x6 (x7 + (1 : Int32)) u _ _ _ V (lv_sub hl [1, 2, 3, 4, 0] rfl) h
        · have h := if_f c5 h
          refine lv_aload_n hx hb dX6_split_155 rfl (lv_at hl 0 rfl) ?_
          refine va_get (C := RX6) (T := TX6) (N := 24) (ci := 5) hx hb hts igX6 hown C.1 V.1 0 rfl rfl 15 (by decide) (hts _ kt_618) (fun _ h => h) rfl dX6_split_156 ?_
          refine lv_aload_n hx hb dX6_split_159 rfl (lv_at hl 0 rfl) ?_
          refine va_get (C := RX6) (T := TX6) (N := 24) (ci := 5) hx hb hts igX6 hown C.1 V.1 0 rfl rfl 16 (by decide) (hts _ kt_619) (fun _ h => h) rfl dX6_split_160 ?_
          refine lv_iload hx hb dX6_split_163 (lv_at hl 4 rfl) ?_
          obtain ⟨i6, h⟩ := ck_e h
          refine va_iald hx hb C.1 V.1 14 0 rfl rfl i6 dX6_split_165 ?_
          obtain ⟨i7, h⟩ := ck_e h
          refine va_iald hx hb C.1 V.1 13 0 rfl rfl i7 dX6_split_166 ?_
          refine lv_iload hx hb dX6_split_167 (lv_at hl 1 rfl) ?_
          refine lv_icmp_ne (tgt := 184) hx hb dX6_split_169 (by decide) (fun c8 => ?_) (fun c8 => ?_)
          · have h := if_t c8 h
            refine lv_iinc (v := (x7 + (1 : Int32))) (lv' := [(7, .int (x7 + (1 : Int32))), (0, .ref (a 0)), (4, .int x4), (5, .int x5), (6, .int x6)]) hx hb dX6_split_184 hl (k := 4) rfl rfl (by decide) rfl (fun ls hl => ?_)
            refine lv_goto (tgt := 124) hx hb dX6_split_187 (by decide) ?_
            exact ih x4 x5 x6 (x7 + (1 : Int32)) u _ _ _ V (lv_sub hl [1, 2, 3, 4, 0] rfl) h
          · have h := if_nn c8 h
            refine lv_aload_n hx hb dX6_split_172 rfl (lv_at hl 0 rfl) ?_
            refine va_get (C := RX6) (T := TX6) (N := 24) (ci := 5) hx hb hts igX6 hown C.1 V.1 0 rfl rfl 15 (by decide) (hts _ kt_618) (fun _ h => h) rfl dX6_split_173 ?_
            refine lv_iload hx hb dX6_split_176 (lv_at hl 4 rfl) ?_
            refine lv_iload hx hb dX6_split_178 (lv_at hl 1 rfl) ?_
            obtain ⟨i9, h⟩ := ck_e h
            obtain ⟨u10, eu10, h⟩ := gl_e h
            refine gw_iast (u' := u10) hx hb (mdW_as a cA) C V 13 0 rfl rfl i9 (mdS_12 _ _ _ _ _ _ eu10) dX6_split_180 (fun H locs V => ?_)
            refine lv_iconst (v := (1 : Int32)) hx hb dX6_split_181 (by decide) ?_
            refine lv_istore (lv' := [(6, .int (1 : Int32)), (0, .ref (a 0)), (4, .int x4), (5, .int x5), (7, .int x7)]) hx hb dX6_split_182 hl (by decide) rfl (fun ls hl => ?_)
            refine lv_iinc (v := (x7 + (1 : Int32))) (lv' := [(7, .int (x7 + (1 : Int32))), (6, .int (1 : Int32)), (0, .ref (a 0)), (4, .int x4), (5, .int x5)]) hx hb dX6_split_184 hl (k := 4) rfl rfl (by decide) rfl (fun ls hl => ?_)
            refine lv_goto (tgt := 124) hx hb dX6_split_187 (by decide) ?_
            exact ih x4 x5 (1 : Int32) (x7 + (1 : Int32)) u10 _ _ _ V (lv_sub hl [2, 3, 4, 1, 0] rfl) h
set_option maxHeartbeats 4000000 in
theorem LX6_split_113 {p : Program} {l : Launch} {e : Env} {s : State} {m : MethodId} {below : List Frame} {meth : Method} {c : Code} {args : Array Value} {D : va_G} {a : Nat → Nat} {cA : ClassId} (B : gw_B p s m args meth c cX6_split 8 (some .int) RX6 gT) (C : gw_C D vwCl [(cA, .int)] (mdA a) gY s) {rv : Int32 × g_S} : ∀ (n : Nat) (x4 : Int32) (x5 : Int32) (x6 : Int32) (u : g_S) (H : Heap) (locs : List Loc) (ls : Array Slot), gw_V D vwCl (mdA a) (mdW a cA) s u H locs → lv_has ls 8 [(0, .ref (a 0)), (4, .int x4), (5, .int x5), (6, .int x6)] → fm_split_113 n u x4 x5 x6 = some rv → W p l e rmX6_split s m args below meth c H locs 0 0 (gw_Ei D vwCl (mdA a) (mdW a cA) below args s rv.1 rv.2) (F0 m 113 ls []) := by
  obtain ⟨hx, hb, hml, hown, hts, hr, hlk⟩ := id B
  intro n
  induction n with
  | zero =>
    intro x4 x5 x6 u H locs ls V hl h
    cases h
  | succ n ih =>
    intro x4 x5 x6 u H locs ls V hl h
    rw [fm_split_113_s] at h
    refine lv_iload hx hb dX6_split_113 (lv_at hl 3 rfl) ?_
    refine lv_if_eq (tgt := 193) hx hb dX6_split_115 (by decide) (fun c1 => ?_) (fun c1 => ?_)
    · have h := if_t c1 h
      refine lv_iload hx hb dX6_split_193 (lv_at hl 1 rfl) ?_
      exact gw_reti hx hb hr rfl hlk V (in2a h) (in2b h) dX6_split_195
    · have h := if_f c1 h
      refine lv_iconst (v := (0 : Int32)) hx hb dX6_split_118 (by decide) ?_
      refine lv_istore (lv' := [(6, .int (0 : Int32)), (0, .ref (a 0)), (4, .int x4), (5, .int x5)]) hx hb dX6_split_119 hl (by decide) rfl (fun ls hl => ?_)
      refine lv_iconst (v := (0 : Int32)) hx hb dX6_split_121 (by decide) ?_
      refine lv_istore (lv' := [(7, .int (0 : Int32)), (6, .int (0 : Int32)), (0, .ref (a 0)), (4, .int x4), (5, .int x5)]) hx hb dX6_split_122 hl (by decide) rfl (fun ls hl => ?_)
      exact LX6_split_124 B C (fun x4 x5 x6 u => ih x4 x5 x6 u) 200 x4 x5 (0 : Int32) (0 : Int32) u _ _ _ V (lv_sub hl [2, 3, 4, 1, 0] rfl) h
set_option maxHeartbeats 4000000 in
theorem LX6_split_66 {p : Program} {l : Launch} {e : Env} {s : State} {m : MethodId} {below : List Frame} {meth : Method} {c : Code} {args : Array Value} {D : va_G} {a : Nat → Nat} {cA : ClassId} (B : gw_B p s m args meth c cX6_split 8 (some .int) RX6 gT) (C : gw_C D vwCl [(cA, .int)] (mdA a) gY s) {rv : Int32 × g_S} : ∀ (x1 : Int32) (y1 : Int32) (y2 : Int32) (y3 : Int32) (u : g_S) (H : Heap) (locs : List Loc) (ls : Array Slot), gw_V D vwCl (mdA a) (mdW a cA) s u H locs → lv_has ls 8 [(0, .ref (a 0)), (1, .int x1)] → fm_split_66 u x1 y1 y2 y3 = some rv → W p l e rmX6_split s m args below meth c H locs 0 0 (gw_Ei D vwCl (mdA a) (mdW a cA) below args s rv.1 rv.2) (F0 m 66 ls [.int y3, .int y2, .int y1, .ref (a 0)]) := by
  obtain ⟨hx, hb, hml, hown, hts, hr, hlk⟩ := id B
  intro x1 y1 y2 y3 u H locs ls V hl h
  unfold fm_split_66 at h
  obtain ⟨v1, hv1, h⟩ := bi_e h
  refine gw_ki V (va_runV (As := [.int y1, .int y2, .int y3]) (rest := []) ⟨hx, hb, hml, hown, hts⟩ (mX6_throwing (D := D) (a := a) (cA := cA) (u := u) hv1) (cwV 3 hts gmdX6_90 rfl rfl rfl (by decide +kernel) ⟨Nat.le_of_ble_eq_true rfl, Nat.le_of_ble_eq_true rfl⟩) (gw_preV (q0 := 0) (ci := 5) gY_ok C V [.int y1, .int y2, .int y3] rfl rfl) rfl rfl hl.1 rfl (lv_room (Nat.le_of_ble_eq_true rfl)) dX6_split_66 ⟨Nat.zero_le _, Nat.zero_le _⟩) (fun H locs V => ?_)
  refine lv_if_eq (tgt := 74) hx hb dX6_split_69 (by decide) (fun c2 => ?_) (fun c2 => ?_)
  · have h := if_t c2 h
    refine lv_aload_n hx hb dX6_split_74 rfl (lv_at hl 0 rfl) ?_
    obtain ⟨v3, hv3, h⟩ := bi_e h
    refine gw_ki V (va_runV (As := []) (rest := []) ⟨hx, hb, hml, hown, hts⟩ (mX6_newEvent (D := D) (a := a) (cA := cA) (u := v1.2) hv3) (cwV 0 hts gmdX6_163 rfl rfl rfl (by decide +kernel) ⟨Nat.le_of_ble_eq_true rfl, Nat.le_of_ble_eq_true rfl⟩) (gw_preV (q0 := 0) (ci := 5) gY_ok C V [] rfl rfl) rfl rfl hl.1 rfl (lv_room (Nat.le_of_ble_eq_true rfl)) dX6_split_75 ⟨Nat.zero_le _, Nat.zero_le _⟩) (fun H locs V => ?_)
    refine lv_istore (lv' := [(4, .int v3.1), (0, .ref (a 0)), (1, .int x1)]) hx hb dX6_split_78 hl (by decide) rfl (fun ls hl => ?_)
    refine lv_aload_n hx hb dX6_split_80 rfl (lv_at hl 1 rfl) ?_
    refine va_get (C := RX6) (T := TX6) (N := 24) (ci := 5) hx hb hts igX6 hown C.1 V.1 0 rfl rfl 16 (by decide) (hts _ kt_619) (fun _ h => h) rfl dX6_split_81 ?_
    refine lv_iload_n hx hb dX6_split_84 rfl (lv_at hl 2 rfl) ?_
    refine lv_iconst (v := (-1 : Int32)) hx hb dX6_split_85 (by decide) ?_
    obtain ⟨i4, h⟩ := ck_e h
    obtain ⟨u5, eu5, h⟩ := gl_e h
    refine gw_iast (u' := u5) hx hb (mdW_as a cA) C V 14 0 rfl rfl i4 (mdS_13 _ _ _ _ _ _ eu5) dX6_split_86 (fun H locs V => ?_)
    refine lv_aload_n hx hb dX6_split_87 rfl (lv_at hl 1 rfl) ?_
    refine va_get (C := RX6) (T := TX6) (N := 24) (ci := 5) hx hb hts igX6 hown C.1 V.1 0 rfl rfl 18 (by decide) (hts _ kt_621) (fun _ h => h) rfl dX6_split_88 ?_
    refine lv_iload_n hx hb dX6_split_91 rfl (lv_at hl 2 rfl) ?_
    refine lv_iconst (v := (0 : Int32)) hx hb dX6_split_92 (by decide) ?_
    obtain ⟨i6, h⟩ := ck_e h
    obtain ⟨u7, eu7, h⟩ := gl_e h
    refine gw_iast (u' := u7) hx hb (mdW_as a cA) C V 16 0 rfl rfl i6 (mdS_15 _ _ _ _ _ _ eu7) dX6_split_93 (fun H locs V => ?_)
    refine lv_aload_n hx hb dX6_split_94 rfl (lv_at hl 1 rfl) ?_
    refine va_get (C := RX6) (T := TX6) (N := 24) (ci := 5) hx hb hts igX6 hown C.1 V.1 0 rfl rfl 15 (by decide) (hts _ kt_618) (fun _ h => h) rfl dX6_split_95 ?_
    refine lv_iload_n hx hb dX6_split_98 rfl (lv_at hl 2 rfl) ?_
    obtain ⟨i8, h⟩ := ck_e h
    refine va_iald hx hb C.1 V.1 13 0 rfl rfl i8 dX6_split_99 ?_
    obtain ⟨w9, ew9, h⟩ := gl_e h
    refine gw_nmi ew9 ?_
    refine lv_istore (lv' := [(5, .int w9), (4, .int v3.1), (0, .ref (a 0)), (1, .int x1)]) hx hb dX6_split_100 hl (by decide) rfl (fun ls hl => ?_)
    refine lv_aload_n hx hb dX6_split_102 rfl (lv_at hl 2 rfl) ?_
    refine va_get (C := RX6) (T := TX6) (N := 24) (ci := 5) hx hb hts igX6 hown C.1 V.1 0 rfl rfl 15 (by decide) (hts _ kt_618) (fun _ h => h) rfl dX6_split_103 ?_
    refine lv_iload_n hx hb dX6_split_106 rfl (lv_at hl 3 rfl) ?_
    refine lv_iload hx hb dX6_split_107 (lv_at hl 1 rfl) ?_
    obtain ⟨i10, h⟩ := ck_e h
    obtain ⟨u11, eu11, h⟩ := gl_e h
    refine gw_iast (u' := u11) hx hb (mdW_as a cA) C V 13 0 rfl rfl i10 (mdS_12 _ _ _ _ _ _ eu11) dX6_split_109 (fun H locs V => ?_)
    refine lv_iconst (v := (1 : Int32)) hx hb dX6_split_110 (by decide) ?_
    refine lv_istore (lv' := [(6, .int (1 : Int32)), (5, .int w9), (4, .int v3.1), (0, .ref (a 0)), (1, .int x1)]) hx hb dX6_split_111 hl (by decide) rfl (fun ls hl => ?_)
    exact LX6_split_113 B C 200 v3.1 w9 (1 : Int32) u11 _ _ _ V (lv_sub hl [3, 2, 1, 0] rfl) h
  · have h := if_f c2 h
    refine lv_iconst (v := (0 : Int32)) hx hb dX6_split_72 (by decide) ?_
    exact gw_reti hx hb hr rfl hlk V (in2a h) (in2b h) dX6_split_73
set_option maxHeartbeats 4000000 in
theorem LX6_split_52 {p : Program} {l : Launch} {e : Env} {s : State} {m : MethodId} {below : List Frame} {meth : Method} {c : Code} {args : Array Value} {D : va_G} {a : Nat → Nat} {cA : ClassId} (B : gw_B p s m args meth c cX6_split 8 (some .int) RX6 gT) (C : gw_C D vwCl [(cA, .int)] (mdA a) gY s) {rv : Int32 × g_S} : ∀ (x1 : Int32) (y1 : Int32) (y2 : Int32) (u : g_S) (H : Heap) (locs : List Loc) (ls : Array Slot), gw_V D vwCl (mdA a) (mdW a cA) s u H locs → lv_has ls 8 [(0, .ref (a 0)), (1, .int x1)] → fm_split_52 u x1 y1 y2 = some rv → W p l e rmX6_split s m args below meth c H locs 0 0 (gw_Ei D vwCl (mdA a) (mdW a cA) below args s rv.1 rv.2) (F0 m 52 ls [.int y2, .int y1, .ref (a 0)]) := by
  obtain ⟨hx, hb, hml, hown, hts, hr, hlk⟩ := id B
  intro x1 y1 y2 u H locs ls V hl h
  unfold fm_split_52 at h
  refine lv_aload_n hx hb dX6_split_52 rfl (lv_at hl 0 rfl) ?_
  refine va_get (C := RX6) (T := TX6) (N := 24) (ci := 5) hx hb hts igX6 hown C.1 V.1 0 rfl rfl 9 (by decide) (hts _ kt_612) (fun _ h => h) rfl dX6_split_53 ?_
  refine lv_bipush (v := (60 : Int32)) hx hb dX6_split_56 (by decide) ?_
  refine lv_icmp_ne (tgt := 65) hx hb dX6_split_58 (by decide) (fun c1 => ?_) (fun c1 => ?_)
  · have h := if_t c1 h
    refine lv_iconst (v := (0 : Int32)) hx hb dX6_split_65 (by decide) ?_
    exact LX6_split_66 B C x1 y1 y2 (0 : Int32) u _ _ _ V (lv_sub hl [0, 1] rfl) h
  · have h := if_nn c1 h
    refine lv_iconst (v := (1 : Int32)) hx hb dX6_split_61 (by decide) ?_
    refine lv_goto (tgt := 66) hx hb dX6_split_62 (by decide) ?_
    exact LX6_split_66 B C x1 y1 y2 (1 : Int32) u _ _ _ V (lv_sub hl [0, 1] rfl) h
set_option maxHeartbeats 4000000 in
theorem LX6_split_32 {p : Program} {l : Launch} {e : Env} {s : State} {m : MethodId} {below : List Frame} {meth : Method} {c : Code} {args : Array Value} {D : va_G} {a : Nat → Nat} {cA : ClassId} (B : gw_B p s m args meth c cX6_split 8 (some .int) RX6 gT) (C : gw_C D vwCl [(cA, .int)] (mdA a) gY s) {rv : Int32 × g_S} : ∀ (x1 : Int32) (x2 : Int32) (y0 : Int32) (u : g_S) (H : Heap) (locs : List Loc) (ls : Array Slot), gw_V D vwCl (mdA a) (mdW a cA) s u H locs → lv_has ls 8 [(0, .ref (a 0)), (1, .int x1), (2, .int x2)] → fm_split_32 u x1 x2 y0 = some rv → W p l e rmX6_split s m args below meth c H locs 0 0 (gw_Ei D vwCl (mdA a) (mdW a cA) below args s rv.1 rv.2) (F0 m 32 ls [.int y0]) := by
  obtain ⟨hx, hb, hml, hown, hts, hr, hlk⟩ := id B
  intro x1 x2 y0 u H locs ls V hl h
  unfold fm_split_32 at h
  refine lv_istore_n (lv' := [(3, .int y0), (0, .ref (a 0)), (1, .int x1), (2, .int x2)]) hx hb dX6_split_32 rfl hl (by decide) rfl (fun ls hl => ?_)
  refine lv_aload_n hx hb dX6_split_33 rfl (lv_at hl 1 rfl) ?_
  refine lv_iload_n hx hb dX6_split_34 rfl (lv_at hl 3 rfl) ?_
  refine lv_if_ne (tgt := 42) hx hb dX6_split_35 (by decide) (fun c1 => ?_) (fun c1 => ?_)
  · have h := if_t c1 h
    refine lv_iconst (v := (0 : Int32)) hx hb dX6_split_42 (by decide) ?_
    refine lv_iload_n hx hb dX6_split_43 rfl (lv_at hl 0 rfl) ?_
    refine lv_if_ne (tgt := 51) hx hb dX6_split_44 (by decide) (fun c2 => ?_) (fun c2 => ?_)
    · have h := if_t c2 h
      refine lv_iconst (v := (0 : Int32)) hx hb dX6_split_51 (by decide) ?_
      exact LX6_split_52 B C x1 (0 : Int32) (0 : Int32) u _ _ _ V (lv_sub hl [1, 2] rfl) h
    · have h := if_nn c2 h
      refine lv_iconst (v := (1 : Int32)) hx hb dX6_split_47 (by decide) ?_
      refine lv_goto (tgt := 52) hx hb dX6_split_48 (by decide) ?_
      exact LX6_split_52 B C x1 (0 : Int32) (1 : Int32) u _ _ _ V (lv_sub hl [1, 2] rfl) h
  · have h := if_nn c1 h
    refine lv_iconst (v := (1 : Int32)) hx hb dX6_split_38 (by decide) ?_
    refine lv_goto (tgt := 43) hx hb dX6_split_39 (by decide) ?_
    refine lv_iload_n hx hb dX6_split_43 rfl (lv_at hl 0 rfl) ?_
    refine lv_if_ne (tgt := 51) hx hb dX6_split_44 (by decide) (fun c3 => ?_) (fun c3 => ?_)
    · have h := if_t c3 h
      refine lv_iconst (v := (0 : Int32)) hx hb dX6_split_51 (by decide) ?_
      exact LX6_split_52 B C x1 (1 : Int32) (0 : Int32) u _ _ _ V (lv_sub hl [1, 2] rfl) h
    · have h := if_nn c3 h
      refine lv_iconst (v := (1 : Int32)) hx hb dX6_split_47 (by decide) ?_
      refine lv_goto (tgt := 52) hx hb dX6_split_48 (by decide) ?_
      exact LX6_split_52 B C x1 (1 : Int32) (1 : Int32) u _ _ _ V (lv_sub hl [1, 2] rfl) h
set_option maxHeartbeats 4000000 in
theorem mX6_split {l : Launch} {D : va_G} {a : Nat → Nat} {cA : ClassId} {sz : Nat} {u : g_S} {p1 : Int32} {rv : Int32 × g_S} (h : fm_split u p1 = some rv) : gw_Mi D vwCl [(cA, .int)] (mdA a) gY (mdW a cA) l yX6_split wxX6_split rmX6_split sz u [.ref (a 0), .int p1] rv.1 rv.2 := by
  refine gw_Mof (Qc := fun z => va_Qi (gw_Pi rv.1 rv.2) (gw_W D vwCl (mdW a cA)) (rg (mdA a) z)) (cc := cX6_split) (maxL := 8) (ret := (some .int)) (by decide) rfl ?_
  intro p e s m below meth c B C V
  obtain ⟨hx, hb, hml, hown, hts, hr, hlk⟩ := id B
  have hl := lv_entry ([.ref (a 0), .int p1]) (n := 8) (Nat.le_of_ble_eq_true rfl)
  rw [lg_entry_eq]
  generalize (lg_sl ([.ref (a 0), .int p1]) ++ List.replicate (8 - (lg_sl ([.ref (a 0), .int p1])).length) Slot.unset).toArray = ls at hl ⊢
  have hl : lv_has ls 8 [(0, .ref (a 0)), (1, .int p1)] := hl
  unfold fm_split at h
  refine lv_aload_n hx hb dX6_split_0 rfl (lv_at hl 0 rfl) ?_
  refine lv_iload_n hx hb dX6_split_1 rfl (lv_at hl 1 rfl) ?_
  obtain ⟨v1, hv1, h⟩ := bi_e h
  refine gw_ki V (va_runV (As := [.int p1]) (rest := []) ⟨hx, hb, hml, hown, hts⟩ (mX6_isCall (D := D) (a := a) (cA := cA) (u := u) hv1) (cwV 1 hts gmdX6_167 rfl rfl rfl (by decide +kernel) ⟨Nat.le_of_ble_eq_true rfl, Nat.le_of_ble_eq_true rfl⟩) (gw_preV (q0 := 0) (ci := 5) gY_ok C V [.int p1] rfl rfl) rfl rfl hl.1 rfl (lv_room (Nat.le_of_ble_eq_true rfl)) dX6_split_2 ⟨Nat.zero_le _, Nat.zero_le _⟩) (fun H locs V => ?_)
  refine lv_istore_n (lv' := [(2, .int v1), (0, .ref (a 0)), (1, .int p1)]) hx hb dX6_split_5 rfl hl (by decide) rfl (fun ls hl => ?_)
  refine lv_iload_n hx hb dX6_split_6 rfl (lv_at hl 0 rfl) ?_
  refine lv_if_eq (tgt := 31) hx hb dX6_split_7 (by decide) (fun c2 => ?_) (fun c2 => ?_)
  · have h := if_t c2 h
    refine lv_iconst (v := (0 : Int32)) hx hb dX6_split_31 (by decide) ?_
    exact LX6_split_32 B C p1 v1 (0 : Int32) u _ _ _ V (lv_sub hl [1, 2, 0] rfl) h
  · have h := if_f c2 h
    refine lv_aload_n hx hb dX6_split_10 rfl (lv_at hl 1 rfl) ?_
    refine va_get (C := RX6) (T := TX6) (N := 24) (ci := 5) hx hb hts igX6 hown C.1 V.1 0 rfl rfl 16 (by decide) (hts _ kt_619) (fun _ h => h) rfl dX6_split_11 ?_
    refine lv_iload_n hx hb dX6_split_14 rfl (lv_at hl 2 rfl) ?_
    obtain ⟨i3, h⟩ := ck_e h
    refine va_iald hx hb C.1 V.1 14 0 rfl rfl i3 dX6_split_15 ?_
    refine lv_if_lt (tgt := 31) hx hb dX6_split_16 (by decide) (fun c4 => ?_) (fun c4 => ?_)
    · have h := if_t c4 h
      refine lv_iconst (v := (0 : Int32)) hx hb dX6_split_31 (by decide) ?_
      exact LX6_split_32 B C p1 v1 (0 : Int32) u _ _ _ V (lv_sub hl [1, 2, 0] rfl) h
    · have h := if_f c4 h
      refine lv_aload_n hx hb dX6_split_19 rfl (lv_at hl 1 rfl) ?_
      refine lv_iload_n hx hb dX6_split_20 rfl (lv_at hl 2 rfl) ?_
      obtain ⟨v5, hv5, h⟩ := bi_e h
      refine gw_ki V (va_runV (As := [.int p1]) (rest := []) ⟨hx, hb, hml, hown, hts⟩ (mX6_isOpen (D := D) (a := a) (cA := cA) (u := u) hv5) (cwV 1 hts gmdX6_118 rfl rfl rfl (by decide +kernel) ⟨Nat.le_of_ble_eq_true rfl, Nat.le_of_ble_eq_true rfl⟩) (gw_preV (q0 := 0) (ci := 5) gY_ok C V [.int p1] rfl rfl) rfl rfl hl.1 rfl (lv_room (Nat.le_of_ble_eq_true rfl)) dX6_split_21 ⟨Nat.zero_le _, Nat.zero_le _⟩) (fun H locs V => ?_)
      refine lv_if_eq (tgt := 31) hx hb dX6_split_24 (by decide) (fun c6 => ?_) (fun c6 => ?_)
      · have h := if_t c6 h
        refine lv_iconst (v := (0 : Int32)) hx hb dX6_split_31 (by decide) ?_
        exact LX6_split_32 B C p1 v1 (0 : Int32) u _ _ _ V (lv_sub hl [1, 2, 0] rfl) h
      · have h := if_f c6 h
        refine lv_iconst (v := (1 : Int32)) hx hb dX6_split_27 (by decide) ?_
        refine lv_goto (tgt := 32) hx hb dX6_split_28 (by decide) ?_
        exact LX6_split_32 B C p1 v1 (1 : Int32) u _ _ _ V (lv_sub hl [1, 2, 0] rfl) h
