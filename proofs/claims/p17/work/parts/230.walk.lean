set_option maxHeartbeats 4000000 in
theorem mX4_reasonFor {l : Launch} (hl9 : l.stackTraces = false) {D : va_G} {a : Nat → Nat} {cA : ClassId} {sz : Nat} {u : g_S} {p1 : Int32} {p2 : Int32} {p3 : Int32} {p4 : Int32} {p5 : Int32} {p6 : Int32} {rv : Nat × Int32 × g_S} (h : fcJ_reasonFor u p1 p2 p3 p4 p5 p6 = some rv) : gx_Mi D vwCl [(cA, .int)] (cjA a) gX (cjW a cA) l yX4_reasonFor wxX4_reasonFor (rmX4_reasonFor rv.1) (gk rv.1) (6 * gk rv.1) sz u [.ref (a 0), .int p1, .int p2, .int p3, .int p4, .int p5, .int p6] rv.1 rv.2.1 rv.2.2 := by
  refine gx_Mof (Qc := fun z => va_Qi (gx_Pi rv.1 rv.2.1 rv.2.2) (gw_W D vwCl (cjW a cA)) (rg (cjA a) z)) (XC := fun z => vx_X (gx_Px rv.1 rv.2.2) (gx_W D vwCl (cjW a cA) rv.1) (rg (cjA a) z)) (cc := cX4_reasonFor) (maxL := 8) (ret := (some .int)) (by decide) rfl ?_
  intro p e s m below meth c B htab C V
  obtain ⟨hx, hb, hml, hown, hts, hr, hlk⟩ := id B
  have hl := lv_entry ([.ref (a 0), .int p1, .int p2, .int p3, .int p4, .int p5, .int p6]) (n := 8) (Nat.le_of_ble_eq_true rfl)
  rw [lg_entry_eq]
  generalize (lg_sl ([.ref (a 0), .int p1, .int p2, .int p3, .int p4, .int p5, .int p6]) ++ List.replicate (8 - (lg_sl ([.ref (a 0), .int p1, .int p2, .int p3, .int p4, .int p5, .int p6])).length) Slot.unset).toArray = ls at hl ⊢
  have hl : lv_has ls 8 [(0, .ref (a 0)), (1, .int p1), (2, .int p2), (3, .int p3), (4, .int p4), (5, .int p5), (6, .int p6)] := hl
  unfold fcJ_reasonFor at h
  refine lv_aload_n hx hb dX4_reasonFor_0 rfl (lv_at hl 0 rfl) ?_
  refine lv_iload_n hx hb dX4_reasonFor_1 rfl (lv_at hl 1 rfl) ?_
  refine lv_iload_n hx hb dX4_reasonFor_2 rfl (lv_at hl 2 rfl) ?_
  refine lv_iload_n hx hb dX4_reasonFor_3 rfl (lv_at hl 3 rfl) ?_
  refine lv_iload hx hb dX4_reasonFor_4 (lv_at hl 5 rfl) ?_
  refine lv_iload hx hb dX4_reasonFor_6 (lv_at hl 6 rfl) ?_
  obtain ⟨v1, hv1, h⟩ := bi_e h
  refine gy_kv V (vx_runV (As := [.int p1, .int p2, .int p3, .int p5, .int p6]) (rest := []) ⟨hx, hb, hml, hown, hts⟩ (mX4_needCallData hl9 (D := D) (a := a) (cA := cA) (u := u) hv1) (cwV 5 hts gcjX4_76 rfl rfl rfl (by decide +kernel) ⟨Nat.le_of_ble_eq_true rfl, Nat.le_of_ble_eq_true rfl⟩) (gw_preV (q0 := 0) (ci := 4) gX_ok C V [.int p1, .int p2, .int p3, .int p5, .int p6] rfl rfl) rfl rfl hl.1 rfl (lv_room (Nat.le_of_ble_eq_true rfl)) dX4_reasonFor_8 (gkr (gk_le (fun q => in3a (if_f q h))))) (fun k0 H locs ce qe V hat => ?_) (fun k0 H locs V => ?_)
  · have h := if_f k0 h
    exact gx_out htab hlk V hat k0 (in3a h) (in3c h) (gk1 (fun q => k0 ((in3a h).trans q))).1 (gk1 (fun q => k0 ((in3a h).trans q))).2
  have h := if_t k0 h
  refine lv_aload_n hx hb dX4_reasonFor_11 rfl (lv_at hl 0 rfl) ?_
  refine va_get (C := RX4) (T := TX4) (N := 4) (ci := 4) hx hb hts igX4 hown C.1 V.1 0 rfl rfl 2 (by decide) (hts _ kt_158) (fun _ h => h) rfl dX4_reasonFor_12 ?_
  refine lv_iload_n hx hb dX4_reasonFor_15 rfl (lv_at hl 1 rfl) ?_
  refine lv_iload_n hx hb dX4_reasonFor_16 rfl (lv_at hl 2 rfl) ?_
  refine lv_iload_n hx hb dX4_reasonFor_17 rfl (lv_at hl 3 rfl) ?_
  refine lv_iload hx hb dX4_reasonFor_18 (lv_at hl 4 rfl) ?_
  refine lv_iload hx hb dX4_reasonFor_20 (lv_at hl 5 rfl) ?_
  refine lv_iload hx hb dX4_reasonFor_22 (lv_at hl 6 rfl) ?_
  obtain ⟨v2, hv2, h⟩ := bi_e h
  refine gw_ki V (va_runV (As := [.int p1, .int p2, .int p3, .int p4, .int p5, .int p6]) (rest := []) ⟨hx, hb, hml, hown, hts⟩ (mX0_draft (D := D) (a := a) (cA := cA) (u := u) hv2) (cwV 6 hts gcjX4_83 rfl rfl rfl (by decide +kernel) ⟨Nat.le_of_ble_eq_true rfl, Nat.le_of_ble_eq_true rfl⟩) (gw_preV (q0 := 3) (ci := 0) gX_ok C V [.int p1, .int p2, .int p3, .int p4, .int p5, .int p6] rfl rfl) rfl rfl hl.1 rfl (lv_room (Nat.le_of_ble_eq_true rfl)) dX4_reasonFor_24 ⟨Nat.zero_le _, Nat.zero_le _⟩) (fun H locs V => ?_)
  refine lv_istore (lv' := [(7, .int v2.1), (0, .ref (a 0)), (1, .int p1), (2, .int p2), (3, .int p3), (4, .int p4), (5, .int p5), (6, .int p6)]) hx hb dX4_reasonFor_27 hl (by decide) rfl (fun ls hl => ?_)
  refine lv_aload_n hx hb dX4_reasonFor_29 rfl (lv_at hl 1 rfl) ?_
  refine lv_iload hx hb dX4_reasonFor_30 (lv_at hl 0 rfl) ?_
  obtain ⟨v3, hv3, h⟩ := bi_e h
  refine gw_kv V (va_runV (As := [.int v2.1]) (rest := []) ⟨hx, hb, hml, hown, hts⟩ (mX4_seekReason (D := D) (a := a) (cA := cA) (u := v2.2) hv3) (cwV 1 hts gcjX4_87 rfl rfl rfl (by decide +kernel) ⟨Nat.le_of_ble_eq_true rfl, Nat.le_of_ble_eq_true rfl⟩) (gw_preV (q0 := 0) (ci := 4) gX_ok C V [.int v2.1] rfl rfl) rfl rfl hl.1 rfl (lv_room (Nat.le_of_ble_eq_true rfl)) dX4_reasonFor_32 ⟨Nat.zero_le _, Nat.zero_le _⟩) (fun H locs V => ?_)
  refine lv_aload_n hx hb dX4_reasonFor_35 rfl (lv_at hl 1 rfl) ?_
  refine va_get (C := RX4) (T := TX4) (N := 4) (ci := 4) hx hb hts igX4 hown C.1 V.1 0 rfl rfl 2 (by decide) (hts _ kt_158) (fun _ h => h) rfl dX4_reasonFor_36 ?_
  refine va_get (C := RX0) (T := TX0) (N := 11) (ci := 0) hx hb hts igX0 hown C.1 V.1 3 rfl rfl 8 (by decide) (hts _ kt_93) (fun _ h => h) rfl dX4_reasonFor_39 ?_
  refine lv_iload hx hb dX4_reasonFor_42 (lv_at hl 0 rfl) ?_
  obtain ⟨i4, h⟩ := ck_e h
  refine va_iald hx hb C.1 V.1 19 0 rfl rfl i4 dX4_reasonFor_44 ?_
  exact gx_reti hx hb hr rfl hlk V (in3a h).symm (in3b h) (in3c h) (Nat.zero_le _) (Nat.zero_le _) dX4_reasonFor_45
set_option maxHeartbeats 4000000 in
theorem mX4_mark {l : Launch} (hl9 : l.stackTraces = false) {D : va_G} {a : Nat → Nat} {cA : ClassId} {sz : Nat} {u : g_S} {p1 : Int32} {p2 : Int32} {rv : Nat × g_S} (h : fcJ_mark u p1 p2 = some rv) : gx_Mv D vwCl [(cA, .int)] (cjA a) gX (cjW a cA) l yX4_mark wxX4_mark (rmX4_mark rv.1) (gk rv.1) (6 * gk rv.1) sz u [.ref (a 0), .int p1, .int p2] rv.1 rv.2 := by
  refine gx_Mof (Qc := fun z => va_Qv (gx_Pv rv.1 rv.2) (gw_W D vwCl (cjW a cA)) (rg (cjA a) z)) (XC := fun z => vx_X (gx_Px rv.1 rv.2) (gx_W D vwCl (cjW a cA) rv.1) (rg (cjA a) z)) (cc := cX4_mark) (maxL := 3) (ret := none) (by decide) rfl ?_
  intro p e s m below meth c B htab C V
  obtain ⟨hx, hb, hml, hown, hts, hr, hlk⟩ := id B
  have hl := lv_entry ([.ref (a 0), .int p1, .int p2]) (n := 3) (Nat.le_of_ble_eq_true rfl)
  rw [lg_entry_eq]
  generalize (lg_sl ([.ref (a 0), .int p1, .int p2]) ++ List.replicate (3 - (lg_sl ([.ref (a 0), .int p1, .int p2])).length) Slot.unset).toArray = ls at hl ⊢
  have hl : lv_has ls 3 [(0, .ref (a 0)), (1, .int p1), (2, .int p2)] := hl
  unfold fcJ_mark at h
  refine lv_iload_n hx hb dX4_mark_0 rfl (lv_at hl 1 rfl) ?_
  refine lv_aload_n hx hb dX4_mark_1 rfl (lv_at hl 0 rfl) ?_
  refine va_get (C := RX4) (T := TX4) (N := 4) (ci := 4) hx hb hts igX4 hown C.1 V.1 0 rfl rfl 2 (by decide) (hts _ kt_158) (fun _ h => h) rfl dX4_mark_2 ?_
  refine va_get (C := RX0) (T := TX0) (N := 11) (ci := 0) hx hb hts igX0 hown C.1 V.1 3 rfl rfl 0 (by decide) (hts _ kt_77) (fun _ h => h) rfl dX4_mark_5 ?_
  obtain ⟨v1, hv1, h⟩ := bi_e h
  refine gw_ki V (va_runS (As := [.int p1, .int (u.1 0)]) (rest := []) ⟨hx, hb, hml, hown, hts⟩ (mX4_isBelow (D := D) (a := a) (cA := cA) (u := u) hv1) (cwS 2 hts gcjX4_37 rfl rfl rfl (by decide +kernel) ⟨Nat.le_of_ble_eq_true rfl, Nat.le_of_ble_eq_true rfl⟩) (gw_preS gX_ok C V [.int p1, .int (u.1 0)]) rfl rfl hl.1 rfl (lv_room (Nat.le_of_ble_eq_true rfl)) dX4_mark_8 ⟨Nat.zero_le _, Nat.zero_le _⟩) (fun H locs V => ?_)
  obtain ⟨v2, hv2, h⟩ := bi_e h
  refine gy_kv V (vx_runS (As := [.int v1]) (rest := []) ⟨hx, hb, hml, hown, hts⟩ (mX4_needKnown hl9 (D := D) (a := a) (cA := cA) (u := u) hv2) (cwS 1 hts gcjX4_41 rfl rfl rfl (by decide +kernel) ⟨Nat.le_of_ble_eq_true rfl, Nat.le_of_ble_eq_true rfl⟩) (gw_preS gX_ok C V [.int v1]) rfl rfl hl.1 rfl (lv_room (Nat.le_of_ble_eq_true rfl)) dX4_mark_11 (gkr (gk_le (fun q => in2a (if_f q h))))) (fun k0 H locs ce qe V hat => ?_) (fun k0 H locs V => ?_)
  · have h := if_f k0 h
    exact gx_out htab hlk V hat k0 (in2a h) (in2b h) (gk1 (fun q => k0 ((in2a h).trans q))).1 (gk1 (fun q => k0 ((in2a h).trans q))).2
  have h := if_t k0 h
  refine lv_iload_n hx hb dX4_mark_14 rfl (lv_at hl 2 rfl) ?_
  refine lv_bipush (v := (8 : Int32)) hx hb dX4_mark_15 (by decide) ?_
  obtain ⟨v3, hv3, h⟩ := bi_e h
  refine gw_ki V (va_runS (As := [.int p2, .int (8 : Int32)]) (rest := []) ⟨hx, hb, hml, hown, hts⟩ (mX4_isBelow (D := D) (a := a) (cA := cA) (u := u) hv3) (cwS 2 hts gcjX4_37 rfl rfl rfl (by decide +kernel) ⟨Nat.le_of_ble_eq_true rfl, Nat.le_of_ble_eq_true rfl⟩) (gw_preS gX_ok C V [.int p2, .int (8 : Int32)]) rfl rfl hl.1 rfl (lv_room (Nat.le_of_ble_eq_true rfl)) dX4_mark_17 ⟨Nat.zero_le _, Nat.zero_le _⟩) (fun H locs V => ?_)
  obtain ⟨v4, hv4, h⟩ := bi_e h
  refine gy_kv V (vx_runS (As := [.int v3]) (rest := []) ⟨hx, hb, hml, hown, hts⟩ (mX4_needRange hl9 (D := D) (a := a) (cA := cA) (u := u) hv4) (cwS 1 hts gcjX4_45 rfl rfl rfl (by decide +kernel) ⟨Nat.le_of_ble_eq_true rfl, Nat.le_of_ble_eq_true rfl⟩) (gw_preS gX_ok C V [.int v3]) rfl rfl hl.1 rfl (lv_room (Nat.le_of_ble_eq_true rfl)) dX4_mark_20 (gkr (gk_le (fun q => in2a (if_f q h))))) (fun k0 H locs ce qe V hat => ?_) (fun k0 H locs V => ?_)
  · have h := if_f k0 h
    exact gx_out htab hlk V hat k0 (in2a h) (in2b h) (gk1 (fun q => k0 ((in2a h).trans q))).1 (gk1 (fun q => k0 ((in2a h).trans q))).2
  have h := if_t k0 h
  refine lv_aload_n hx hb dX4_mark_23 rfl (lv_at hl 0 rfl) ?_
  refine va_get (C := RX4) (T := TX4) (N := 4) (ci := 4) hx hb hts igX4 hown C.1 V.1 0 rfl rfl 2 (by decide) (hts _ kt_158) (fun _ h => h) rfl dX4_mark_24 ?_
  refine va_get (C := RX0) (T := TX0) (N := 11) (ci := 0) hx hb hts igX0 hown C.1 V.1 3 rfl rfl 10 (by decide) (hts _ kt_97) (fun _ h => h) rfl dX4_mark_27 ?_
  refine lv_iload_n hx hb dX4_mark_30 rfl (lv_at hl 1 rfl) ?_
  refine lv_iload_n hx hb dX4_mark_31 rfl (lv_at hl 2 rfl) ?_
  obtain ⟨i5, h⟩ := ck_e h
  obtain ⟨u6, eu6, h⟩ := gl_e h
  refine gw_iast (u' := u6) hx hb (cjW_as a cA) C V 21 0 rfl rfl i5 (cjS_16 _ _ _ _ _ _ eu6) dX4_mark_32 (fun H locs V => ?_)
  exact gx_retv hx hb hr hlk V (in2a h).symm (in2b h) (Nat.zero_le _) (Nat.zero_le _) dX4_mark_33
set_option maxHeartbeats 4000000 in
theorem mX4_needState {l : Launch} (hl9 : l.stackTraces = false) {D : va_G} {a : Nat → Nat} {cA : ClassId} {sz : Nat} {u : g_S} {p0 : Int32} {rv : Nat} (h : fcJ_needState p0 = some rv) : gx_Mv D vwCl [(cA, .int)] (cjA a) gX (cjW a cA) l yX4_needState wxX4_needState (rmX4_needState rv) (gk rv) (6 * gk rv) sz u [.int p0] rv u := by
  refine gx_Mof (Qc := fun z => va_Qv (gx_Pv rv u) (gw_W D vwCl (cjW a cA)) (rg (cjA a) z)) (XC := fun z => vx_X (gx_Px rv u) (gx_W D vwCl (cjW a cA) rv) (rg (cjA a) z)) (cc := cX4_needState) (maxL := 1) (ret := none) (by decide) rfl ?_
  intro p e s m below meth c B htab C V
  obtain ⟨hx, hb, hml, hown, hts, hr, hlk⟩ := id B
  have hl := lv_entry ([.int p0]) (n := 1) (Nat.le_of_ble_eq_true rfl)
  rw [lg_entry_eq]
  generalize (lg_sl ([.int p0]) ++ List.replicate (1 - (lg_sl ([.int p0])).length) Slot.unset).toArray = ls at hl ⊢
  have hl : lv_has ls 1 [(0, .int p0)] := hl
  unfold fcJ_needState at h
  refine lv_iload_n hx hb dX4_needState_0 rfl (lv_at hl 0 rfl) ?_
  refine lv_if_ne (tgt := 14) hx hb dX4_needState_1 (by decide) (fun c1 => ?_) (fun c1 => ?_)
  · have h := if_t c1 h
    exact gx_retv hx hb hr hlk V (Option.some.inj h).symm rfl (Nat.zero_le _) (Nat.zero_le _) dX4_needState_14
  · have h := if_nn c1 h
    exact gx_thr (names := gEs) hx hb hl9 hown hts (by decide +kernel) (by decide +kernel) kt_446 kt_14 tA_3 tB_3 (gX_b C.2.2) tG_3 (gX_s3 C.2.2).choose_spec (gX_u C.2.2) (gX_v C.2.2) V htab hl.1 hml hlk (by rw [← (Option.some.inj h)]; rfl) (by rw [← (Option.some.inj h)]; decide) rfl dX4_needState_4 dX4_needState_7 dX4_needState_8 dX4_needState_10 dX4_needState_13 (Nat.le_of_ble_eq_true rfl) (Nat.le_of_ble_eq_true rfl) (gk1 (by rw [← (Option.some.inj h)]; decide : ¬ rv = 0)).1 (gk1 (by rw [← (Option.some.inj h)]; decide : ¬ rv = 0)).2 (gk1 (by rw [← (Option.some.inj h)]; decide : ¬ rv = 0)).1 (gk1 (by rw [← (Option.some.inj h)]; decide : ¬ rv = 0)).2
set_option maxHeartbeats 4000000 in
theorem LX0_isUnder_5 {p : Program} {l : Launch} {e : Env} {s : State} {m : MethodId} {below : List Frame} {meth : Method} {c : Code} {args : Array Value} {D : va_G} {a : Nat → Nat} {cA : ClassId} (B : gw_B p s m args meth c cX0_isUnder 5 (some .boolean) RX0 gT) (C : gw_C D vwCl [(cA, .int)] (cjA a) gX s) {rv : Int32} {u : g_S} : ∀ (n : Nat) (x2 : Int32) (x3 : Int32) (x4 : Int32) (H : Heap) (locs : List Loc) (ls : Array Slot), gw_V D vwCl (cjA a) (cjW a cA) s u H locs → lv_has ls 5 [(0, .ref (a 3)), (2, .int x2), (3, .int x3), (4, .int x4)] → fcA_isUnder_5 u n x2 x3 x4 = some rv → W p l e rmX0_isUnder s m args below meth c H locs 0 0 (gw_Ei D vwCl (cjA a) (cjW a cA) below args s rv u) (F0 m 5 ls []) := by
  obtain ⟨hx, hb, hml, hown, hts, hr, hlk⟩ := id B
  intro n
  induction n with
  | zero =>
    intro x2 x3 x4 H locs ls V hl h
    cases h
  | succ n ih =>
    intro x2 x3 x4 H locs ls V hl h
    rw [fcA_isUnder_5_s] at h
    refine lv_iload hx hb dX0_isUnder_5 (lv_at hl 3 rfl) ?_
    refine lv_bipush (v := (120 : Int32)) hx hb dX0_isUnder_7 (by decide) ?_
    refine lv_icmp_ge (tgt := 37) hx hb dX0_isUnder_9 (by decide) (fun c1 => ?_) (fun c1 => ?_)
    · have h := if_t c1 h
      refine lv_iconst (v := (0 : Int32)) hx hb dX0_isUnder_37 (by decide) ?_
      exact gw_reti hx hb hr (nar_z (Or.inl rfl)) hlk V (Option.some.inj h) rfl dX0_isUnder_38
    · have h := if_f c1 h
      refine lv_iload_n hx hb dX0_isUnder_12 rfl (lv_at hl 2 rfl) ?_
      refine lv_iconst (v := (-1 : Int32)) hx hb dX0_isUnder_13 (by decide) ?_
      refine lv_icmp_eq (tgt := 37) hx hb dX0_isUnder_14 (by decide) (fun c2 => ?_) (fun c2 => ?_)
      · have h := if_t c2 h
        refine lv_iconst (v := (0 : Int32)) hx hb dX0_isUnder_37 (by decide) ?_
        exact gw_reti hx hb hr (nar_z (Or.inl rfl)) hlk V (Option.some.inj h) rfl dX0_isUnder_38
      · have h := if_f c2 h
        refine lv_iload_n hx hb dX0_isUnder_17 rfl (lv_at hl 2 rfl) ?_
        refine lv_iload_n hx hb dX0_isUnder_18 rfl (lv_at hl 1 rfl) ?_
        refine lv_icmp_ne (tgt := 24) hx hb dX0_isUnder_19 (by decide) (fun c3 => ?_) (fun c3 => ?_)
        · have h := if_t c3 h
          refine lv_aload_n hx hb dX0_isUnder_24 rfl (lv_at hl 0 rfl) ?_
          refine va_get (C := RX0) (T := TX0) (N := 11) (ci := 0) hx hb hts igX0 hown C.1 V.1 3 rfl rfl 8 (by decide) (hts _ kt_92) (fun _ h => h) rfl dX0_isUnder_25 ?_
          refine lv_iload_n hx hb dX0_isUnder_28 rfl (lv_at hl 2 rfl) ?_
          obtain ⟨i4, h⟩ := ck_e h
          refine va_iald hx hb C.1 V.1 19 0 rfl rfl i4 dX0_isUnder_29 ?_
          obtain ⟨w5, ew5, h⟩ := gl_e h
          refine gw_nmi ew5 ?_
          refine lv_istore_n (lv' := [(3, .int w5), (0, .ref (a 3)), (2, .int x2), (4, .int x4)]) hx hb dX0_isUnder_30 rfl hl (by decide) rfl (fun ls hl => ?_)
          refine lv_iinc (v := (x4 + (1 : Int32))) (lv' := [(4, .int (x4 + (1 : Int32))), (3, .int w5), (0, .ref (a 3)), (2, .int x2)]) hx hb dX0_isUnder_31 hl (k := 3) rfl rfl (by decide) rfl (fun ls hl => ?_)
          refine lv_goto (tgt := 5) hx hb dX0_isUnder_34 (by decide) ?_
          exact ih x2 w5 (x4 + (1 : Int32)) _ _ _ V (lv_sub hl [2, 3, 1, 0] rfl) h
        · have h := if_nn c3 h
          refine lv_iconst (v := (1 : Int32)) hx hb dX0_isUnder_22 (by decide) ?_
          exact gw_reti hx hb hr (nar_z (Or.inr rfl)) hlk V (Option.some.inj h) rfl dX0_isUnder_23
set_option maxHeartbeats 4000000 in
theorem mX0_isUnder {l : Launch} {D : va_G} {a : Nat → Nat} {cA : ClassId} {sz : Nat} {u : g_S} {p1 : Int32} {p2 : Int32} {rv : Int32} (h : fcA_isUnder u p1 p2 = some rv) : gw_Mi D vwCl [(cA, .int)] (cjA a) gX (cjW a cA) l yX0_isUnder wxX0_isUnder rmX0_isUnder sz u [.ref (a 3), .int p1, .int p2] rv u := by
  refine gw_Mof (Qc := fun z => va_Qi (gw_Pi rv u) (gw_W D vwCl (cjW a cA)) (rg (cjA a) z)) (cc := cX0_isUnder) (maxL := 5) (ret := (some .boolean)) (by decide) rfl ?_
  intro p e s m below meth c B C V
  obtain ⟨hx, hb, hml, hown, hts, hr, hlk⟩ := id B
  have hl := lv_entry ([.ref (a 3), .int p1, .int p2]) (n := 5) (Nat.le_of_ble_eq_true rfl)
  rw [lg_entry_eq]
  generalize (lg_sl ([.ref (a 3), .int p1, .int p2]) ++ List.replicate (5 - (lg_sl ([.ref (a 3), .int p1, .int p2])).length) Slot.unset).toArray = ls at hl ⊢
  have hl : lv_has ls 5 [(0, .ref (a 3)), (1, .int p1), (2, .int p2)] := hl
  unfold fcA_isUnder at h
  refine lv_iload_n hx hb dX0_isUnder_0 rfl (lv_at hl 1 rfl) ?_
  refine lv_istore_n (lv' := [(3, .int p1), (0, .ref (a 3)), (1, .int p1), (2, .int p2)]) hx hb dX0_isUnder_1 rfl hl (by decide) rfl (fun ls hl => ?_)
  refine lv_iconst (v := (0 : Int32)) hx hb dX0_isUnder_2 (by decide) ?_
  refine lv_istore (lv' := [(4, .int (0 : Int32)), (3, .int p1), (0, .ref (a 3)), (1, .int p1), (2, .int p2)]) hx hb dX0_isUnder_3 hl (by decide) rfl (fun ls hl => ?_)
  exact LX0_isUnder_5 B C 200 p2 p1 (0 : Int32) _ _ _ V (lv_sub hl [2, 4, 1, 0] rfl) h
set_option maxHeartbeats 4000000 in
theorem LX0_moveBranch_2 {p : Program} {l : Launch} {e : Env} {s : State} {m : MethodId} {below : List Frame} {meth : Method} {c : Code} {args : Array Value} {D : va_G} {a : Nat → Nat} {cA : ClassId} (B : gw_B p s m args meth c cX0_moveBranch 4 none RX0 gT) (C : gw_C D vwCl [(cA, .int)] (cjA a) gX s) {rv : g_S} : ∀ (n : Nat) (x1 : Int32) (x2 : Int32) (x3 : Int32) (u : g_S) (H : Heap) (locs : List Loc) (ls : Array Slot), gw_V D vwCl (cjA a) (cjW a cA) s u H locs → lv_has ls 4 [(0, .ref (a 3)), (1, .int x1), (2, .int x2), (3, .int x3)] → fcA_moveBranch_2 n u x1 x2 x3 = some rv → W p l e rmX0_moveBranch s m args below meth c H locs 0 0 (gw_Ev D vwCl (cjA a) (cjW a cA) below args s rv) (F0 m 2 ls []) := by
  obtain ⟨hx, hb, hml, hown, hts, hr, hlk⟩ := id B
  intro n
  induction n with
  | zero =>
    intro x1 x2 x3 u H locs ls V hl h
    cases h
  | succ n ih =>
    intro x1 x2 x3 u H locs ls V hl h
    rw [fcA_moveBranch_2_s] at h
    refine lv_iload_n hx hb dX0_moveBranch_2 rfl (lv_at hl 3 rfl) ?_
    refine lv_aload_n hx hb dX0_moveBranch_3 rfl (lv_at hl 0 rfl) ?_
    refine va_get (C := RX0) (T := TX0) (N := 11) (ci := 0) hx hb hts igX0 hown C.1 V.1 3 rfl rfl 0 (by decide) (hts _ kt_76) (fun _ h => h) rfl dX0_moveBranch_4 ?_
    refine lv_icmp_ge (tgt := 32) hx hb dX0_moveBranch_7 (by decide) (fun c1 => ?_) (fun c1 => ?_)
    · have h := if_t c1 h
      exact gw_retv hx hb hr hlk V (Option.some.inj h) dX0_moveBranch_32
    · have h := if_f c1 h
      refine lv_aload_n hx hb dX0_moveBranch_10 rfl (lv_at hl 0 rfl) ?_
      refine lv_iload_n hx hb dX0_moveBranch_11 rfl (lv_at hl 3 rfl) ?_
      refine lv_iload_n hx hb dX0_moveBranch_12 rfl (lv_at hl 1 rfl) ?_
      obtain ⟨v2, hv2, h⟩ := bi_e h
      refine gw_ki V (va_runV (As := [.int x3, .int x1]) (rest := []) ⟨hx, hb, hml, hown, hts⟩ (mX0_isUnder (D := D) (a := a) (cA := cA) (u := u) hv2) (cwV 2 hts gcjX0_46 rfl rfl rfl (by decide +kernel) ⟨Nat.le_of_ble_eq_true rfl, Nat.le_of_ble_eq_true rfl⟩) (gw_preV (q0 := 3) (ci := 0) gX_ok C V [.int x3, .int x1] rfl rfl) rfl rfl hl.1 rfl (lv_room (Nat.le_of_ble_eq_true rfl)) dX0_moveBranch_13 ⟨Nat.zero_le _, Nat.zero_le _⟩) (fun H locs V => ?_)
      refine lv_if_eq (tgt := 26) hx hb dX0_moveBranch_16 (by decide) (fun c3 => ?_) (fun c3 => ?_)
      · have h := if_t c3 h
        refine lv_iinc (v := (x3 + (1 : Int32))) (lv' := [(3, .int (x3 + (1 : Int32))), (0, .ref (a 3)), (1, .int x1), (2, .int x2)]) hx hb dX0_moveBranch_26 hl (k := 3) rfl rfl (by decide) rfl (fun ls hl => ?_)
        refine lv_goto (tgt := 2) hx hb dX0_moveBranch_29 (by decide) ?_
        exact ih x1 x2 (x3 + (1 : Int32)) u _ _ _ V (lv_sub hl [1, 2, 3, 0] rfl) h
      · have h := if_f c3 h
        refine lv_aload_n hx hb dX0_moveBranch_19 rfl (lv_at hl 0 rfl) ?_
        refine va_get (C := RX0) (T := TX0) (N := 11) (ci := 0) hx hb hts igX0 hown C.1 V.1 3 rfl rfl 7 (by decide) (hts _ kt_90) (fun _ h => h) rfl dX0_moveBranch_20 ?_
        refine lv_iload_n hx hb dX0_moveBranch_23 rfl (lv_at hl 3 rfl) ?_
        refine lv_iload_n hx hb dX0_moveBranch_24 rfl (lv_at hl 2 rfl) ?_
        obtain ⟨i4, h⟩ := ck_e h
        obtain ⟨u5, eu5, h⟩ := gl_e h
        refine gw_iast (u' := u5) hx hb (cjW_as a cA) C V 18 0 rfl rfl i4 (cjS_13 _ _ _ _ _ _ eu5) dX0_moveBranch_25 (fun H locs V => ?_)
        refine lv_iinc (v := (x3 + (1 : Int32))) (lv' := [(3, .int (x3 + (1 : Int32))), (0, .ref (a 3)), (1, .int x1), (2, .int x2)]) hx hb dX0_moveBranch_26 hl (k := 3) rfl rfl (by decide) rfl (fun ls hl => ?_)
        refine lv_goto (tgt := 2) hx hb dX0_moveBranch_29 (by decide) ?_
        exact ih x1 x2 (x3 + (1 : Int32)) u5 _ _ _ V (lv_sub hl [1, 2, 3, 0] rfl) h
set_option maxHeartbeats 4000000 in
theorem mX0_moveBranch {l : Launch} {D : va_G} {a : Nat → Nat} {cA : ClassId} {sz : Nat} {u : g_S} {p1 : Int32} {p2 : Int32} {rv : g_S} (h : fcA_moveBranch u p1 p2 = some rv) : gw_Mv D vwCl [(cA, .int)] (cjA a) gX (cjW a cA) l yX0_moveBranch wxX0_moveBranch rmX0_moveBranch sz u [.ref (a 3), .int p1, .int p2] rv := by
  refine gw_Mof (Qc := fun z => va_Qv (gw_Pv rv) (gw_W D vwCl (cjW a cA)) (rg (cjA a) z)) (cc := cX0_moveBranch) (maxL := 4) (ret := none) (by decide) rfl ?_
  intro p e s m below meth c B C V
  obtain ⟨hx, hb, hml, hown, hts, hr, hlk⟩ := id B
  have hl := lv_entry ([.ref (a 3), .int p1, .int p2]) (n := 4) (Nat.le_of_ble_eq_true rfl)
  rw [lg_entry_eq]
  generalize (lg_sl ([.ref (a 3), .int p1, .int p2]) ++ List.replicate (4 - (lg_sl ([.ref (a 3), .int p1, .int p2])).length) Slot.unset).toArray = ls at hl ⊢
  have hl : lv_has ls 4 [(0, .ref (a 3)), (1, .int p1), (2, .int p2)] := hl
  unfold fcA_moveBranch at h
  refine lv_iconst (v := (0 : Int32)) hx hb dX0_moveBranch_0 (by decide) ?_
  refine lv_istore_n (lv' := [(3, .int (0 : Int32)), (0, .ref (a 3)), (1, .int p1), (2, .int p2)]) hx hb dX0_moveBranch_1 rfl hl (by decide) rfl (fun ls hl => ?_)
  exact LX0_moveBranch_2 B C 200 p1 p2 (0 : Int32) u _ _ _ V (lv_sub hl [1, 2, 3, 0] rfl) h
set_option maxHeartbeats 4000000 in
theorem LX4_split_60 {p : Program} {l : Launch} {e : Env} {s : State} {m : MethodId} {below : List Frame} {meth : Method} {c : Code} {args : Array Value} {D : va_G} {a : Nat → Nat} {cA : ClassId} (hl9 : l.stackTraces = false) (B : gw_B p s m args meth c cX4_split 3 (some .int) RX4 gT) (htab : ∀ x ∈ c.exceptionTable.toList, False) (C : gw_C D vwCl [(cA, .int)] (cjA a) gX s) {rv : Nat × Int32 × g_S} : ∀ (x1 : Int32) (y0 : Int32) (u : g_S) (H : Heap) (locs : List Loc) (ls : Array Slot), gw_V D vwCl (cjA a) (cjW a cA) s u H locs → lv_has ls 3 [(0, .ref (a 0)), (1, .int x1)] → fcJ_split_60 u x1 y0 = some rv → W p l e (rmX4_split rv.1) s m args below meth c H locs 0 0 (gx_Ei D vwCl (cjA a) (cjW a cA) below args s (gk rv.1) (6 * gk rv.1) rv.1 rv.2.1 rv.2.2) (F0 m 60 ls [.int y0]) := by
  obtain ⟨hx, hb, hml, hown, hts, hr, hlk⟩ := id B
  intro x1 y0 u H locs ls V hl h
  unfold fcJ_split_60 at h
  obtain ⟨v1, hv1, h⟩ := bi_e h
  refine gy_kv V (vx_runS (As := [.int y0]) (rest := []) ⟨hx, hb, hml, hown, hts⟩ (mX4_needRoom hl9 (D := D) (a := a) (cA := cA) (u := u) hv1) (cwS 1 hts gcjX4_69 rfl rfl rfl (by decide +kernel) ⟨Nat.le_of_ble_eq_true rfl, Nat.le_of_ble_eq_true rfl⟩) (gw_preS gX_ok C V [.int y0]) rfl rfl hl.1 rfl (lv_room (Nat.le_of_ble_eq_true rfl)) dX4_split_60 (gkr (gk_le (fun q => in3a (if_f q h))))) (fun k0 H locs ce qe V hat => ?_) (fun k0 H locs V => ?_)
  · have h := if_f k0 h
    exact gx_out htab hlk V hat k0 (in3a h) (in3c h) (gk1 (fun q => k0 ((in3a h).trans q))).1 (gk1 (fun q => k0 ((in3a h).trans q))).2
  have h := if_t k0 h
  refine lv_aload_n hx hb dX4_split_63 rfl (lv_at hl 0 rfl) ?_
  refine va_get (C := RX4) (T := TX4) (N := 4) (ci := 4) hx hb hts igX4 hown C.1 V.1 0 rfl rfl 3 (by decide) (hts _ kt_159) (fun _ h => h) rfl dX4_split_64 ?_
  refine lv_aload_n hx hb dX4_split_67 rfl (lv_at hl 0 rfl) ?_
  refine va_get (C := RX4) (T := TX4) (N := 4) (ci := 4) hx hb hts igX4 hown C.1 V.1 0 rfl rfl 2 (by decide) (hts _ kt_158) (fun _ h => h) rfl dX4_split_68 ?_
  refine va_get (C := RX0) (T := TX0) (N := 11) (ci := 0) hx hb hts igX0 hown C.1 V.1 3 rfl rfl 2 (by decide) (hts _ kt_81) (fun _ h => h) rfl dX4_split_71 ?_
  refine lv_iload_n hx hb dX4_split_74 rfl (lv_at hl 1 rfl) ?_
  obtain ⟨i2, h⟩ := ck_e h
  refine va_iald hx hb C.1 V.1 13 0 rfl rfl i2 dX4_split_75 ?_
  refine lv_iload_n hx hb dX4_split_76 rfl (lv_at hl 1 rfl) ?_
  obtain ⟨v3, hv3, h⟩ := bi_e h
  refine gw_ki V (va_runV (As := [.int (u.2 8 x1.toNatClampNeg), .int x1]) (rest := []) ⟨hx, hb, hml, hown, hts⟩ (mX1_begin (D := D) (a := a) (cA := cA) (u := u) hv3) (cwV 2 hts gcjX4_98 rfl rfl rfl (by decide +kernel) ⟨Nat.le_of_ble_eq_true rfl, Nat.le_of_ble_eq_true rfl⟩) (gw_preV (q0 := 4) (ci := 1) gX_ok C V [.int (u.2 8 x1.toNatClampNeg), .int x1] rfl rfl) rfl rfl hl.1 rfl (lv_room (Nat.le_of_ble_eq_true rfl)) dX4_split_77 ⟨Nat.zero_le _, Nat.zero_le _⟩) (fun H locs V => ?_)
  refine lv_istore_n (lv' := [(2, .int v3.1), (0, .ref (a 0)), (1, .int x1)]) hx hb dX4_split_80 rfl hl (by decide) rfl (fun ls hl => ?_)
  refine lv_aload_n hx hb dX4_split_81 rfl (lv_at hl 1 rfl) ?_
  refine va_get (C := RX4) (T := TX4) (N := 4) (ci := 4) hx hb hts igX4 hown C.1 V.1 0 rfl rfl 2 (by decide) (hts _ kt_158) (fun _ h => h) rfl dX4_split_82 ?_
  refine lv_iload_n hx hb dX4_split_85 rfl (lv_at hl 2 rfl) ?_
  refine lv_iload_n hx hb dX4_split_86 rfl (lv_at hl 0 rfl) ?_
  obtain ⟨v4, hv4, h⟩ := bi_e h
  refine gw_kv V (va_runV (As := [.int x1, .int v3.1]) (rest := []) ⟨hx, hb, hml, hown, hts⟩ (mX0_moveBranch (D := D) (a := a) (cA := cA) (u := v3.2) hv4) (cwV 2 hts gcjX4_114 rfl rfl rfl (by decide +kernel) ⟨Nat.le_of_ble_eq_true rfl, Nat.le_of_ble_eq_true rfl⟩) (gw_preV (q0 := 3) (ci := 0) gX_ok C V [.int x1, .int v3.1] rfl rfl) rfl rfl hl.1 rfl (lv_room (Nat.le_of_ble_eq_true rfl)) dX4_split_87 ⟨Nat.zero_le _, Nat.zero_le _⟩) (fun H locs V => ?_)
  refine lv_aload_n hx hb dX4_split_90 rfl (lv_at hl 1 rfl) ?_
  refine va_get (C := RX4) (T := TX4) (N := 4) (ci := 4) hx hb hts igX4 hown C.1 V.1 0 rfl rfl 2 (by decide) (hts _ kt_158) (fun _ h => h) rfl dX4_split_91 ?_
  refine va_get (C := RX0) (T := TX0) (N := 11) (ci := 0) hx hb hts igX0 hown C.1 V.1 3 rfl rfl 8 (by decide) (hts _ kt_93) (fun _ h => h) rfl dX4_split_94 ?_
  refine lv_iload_n hx hb dX4_split_97 rfl (lv_at hl 2 rfl) ?_
  refine lv_iconst (v := (-1 : Int32)) hx hb dX4_split_98 (by decide) ?_
  obtain ⟨i5, h⟩ := ck_e h
  obtain ⟨u6, eu6, h⟩ := gl_e h
  refine gw_iast (u' := u6) hx hb (cjW_as a cA) C V 19 0 rfl rfl i5 (cjS_14 _ _ _ _ _ _ eu6) dX4_split_99 (fun H locs V => ?_)
  refine lv_aload_n hx hb dX4_split_100 rfl (lv_at hl 1 rfl) ?_
  refine va_get (C := RX4) (T := TX4) (N := 4) (ci := 4) hx hb hts igX4 hown C.1 V.1 0 rfl rfl 2 (by decide) (hts _ kt_158) (fun _ h => h) rfl dX4_split_101 ?_
  refine va_get (C := RX0) (T := TX0) (N := 11) (ci := 0) hx hb hts igX0 hown C.1 V.1 3 rfl rfl 9 (by decide) (hts _ kt_95) (fun _ h => h) rfl dX4_split_104 ?_
  refine lv_iload_n hx hb dX4_split_107 rfl (lv_at hl 2 rfl) ?_
  refine lv_iconst (v := (0 : Int32)) hx hb dX4_split_108 (by decide) ?_
  obtain ⟨i7, h⟩ := ck_e h
  obtain ⟨u8, eu8, h⟩ := gl_e h
  refine gw_iast (u' := u8) hx hb (cjW_as a cA) C V 20 0 rfl rfl i7 (cjS_15 _ _ _ _ _ _ eu8) dX4_split_109 (fun H locs V => ?_)
  refine lv_iload_n hx hb dX4_split_110 rfl (lv_at hl 0 rfl) ?_
  exact gx_reti hx hb hr rfl hlk V (in3a h).symm (in3b h) (in3c h) (Nat.zero_le _) (Nat.zero_le _) dX4_split_111
set_option maxHeartbeats 4000000 in
theorem LX4_split_40 {p : Program} {l : Launch} {e : Env} {s : State} {m : MethodId} {below : List Frame} {meth : Method} {c : Code} {args : Array Value} {D : va_G} {a : Nat → Nat} {cA : ClassId} (hl9 : l.stackTraces = false) (B : gw_B p s m args meth c cX4_split 3 (some .int) RX4 gT) (htab : ∀ x ∈ c.exceptionTable.toList, False) (C : gw_C D vwCl [(cA, .int)] (cjA a) gX s) {rv : Nat × Int32 × g_S} : ∀ (x1 : Int32) (y0 : Int32) (u : g_S) (H : Heap) (locs : List Loc) (ls : Array Slot), gw_V D vwCl (cjA a) (cjW a cA) s u H locs → lv_has ls 3 [(0, .ref (a 0)), (1, .int x1)] → fcJ_split_40 u x1 y0 = some rv → W p l e (rmX4_split rv.1) s m args below meth c H locs 0 0 (gx_Ei D vwCl (cjA a) (cjW a cA) below args s (gk rv.1) (6 * gk rv.1) rv.1 rv.2.1 rv.2.2) (F0 m 40 ls [.int y0]) := by
  obtain ⟨hx, hb, hml, hown, hts, hr, hlk⟩ := id B
  intro x1 y0 u H locs ls V hl h
  unfold fcJ_split_40 at h
  obtain ⟨v1, hv1, h⟩ := bi_e h
  refine gy_kv V (vx_runS (As := [.int y0]) (rest := []) ⟨hx, hb, hml, hown, hts⟩ (mX4_needState hl9 (D := D) (a := a) (cA := cA) (u := u) hv1) (cwS 1 hts gcjX4_108 rfl rfl rfl (by decide +kernel) ⟨Nat.le_of_ble_eq_true rfl, Nat.le_of_ble_eq_true rfl⟩) (gw_preS gX_ok C V [.int y0]) rfl rfl hl.1 rfl (lv_room (Nat.le_of_ble_eq_true rfl)) dX4_split_40 (gkr (gk_le (fun q => in3a (if_f q h))))) (fun k0 H locs ce qe V hat => ?_) (fun k0 H locs V => ?_)
  · have h := if_f k0 h
    exact gx_out htab hlk V hat k0 (in3a h) (in3c h) (gk1 (fun q => k0 ((in3a h).trans q))).1 (gk1 (fun q => k0 ((in3a h).trans q))).2
  have h := if_t k0 h
  refine lv_aload_n hx hb dX4_split_43 rfl (lv_at hl 0 rfl) ?_
  refine va_get (C := RX4) (T := TX4) (N := 4) (ci := 4) hx hb hts igX4 hown C.1 V.1 0 rfl rfl 3 (by decide) (hts _ kt_159) (fun _ h => h) rfl dX4_split_44 ?_
  refine va_get (C := RX1) (T := TX1) (N := 7) (ci := 1) hx hb hts igX1 hown C.1 V.1 4 rfl rfl 0 (by decide) (hts _ kt_128) (fun _ h => h) rfl dX4_split_47 ?_
  refine lv_bipush (v := (60 : Int32)) hx hb dX4_split_50 (by decide) ?_
  refine lv_icmp_ge (tgt := 59) hx hb dX4_split_52 (by decide) (fun c2 => ?_) (fun c2 => ?_)
  · have h := if_t c2 h
    refine lv_iconst (v := (0 : Int32)) hx hb dX4_split_59 (by decide) ?_
    exact LX4_split_60 hl9 B htab C x1 (0 : Int32) u _ _ _ V (lv_sub hl [0, 1] rfl) h
  · have h := if_f c2 h
    refine lv_iconst (v := (1 : Int32)) hx hb dX4_split_55 (by decide) ?_
    refine lv_goto (tgt := 60) hx hb dX4_split_56 (by decide) ?_
    exact LX4_split_60 hl9 B htab C x1 (1 : Int32) u _ _ _ V (lv_sub hl [0, 1] rfl) h
set_option maxHeartbeats 4000000 in
theorem mX4_split {l : Launch} (hl9 : l.stackTraces = false) {D : va_G} {a : Nat → Nat} {cA : ClassId} {sz : Nat} {u : g_S} {p1 : Int32} {rv : Nat × Int32 × g_S} (h : fcJ_split u p1 = some rv) : gx_Mi D vwCl [(cA, .int)] (cjA a) gX (cjW a cA) l yX4_split wxX4_split (rmX4_split rv.1) (gk rv.1) (6 * gk rv.1) sz u [.ref (a 0), .int p1] rv.1 rv.2.1 rv.2.2 := by
  refine gx_Mof (Qc := fun z => va_Qi (gx_Pi rv.1 rv.2.1 rv.2.2) (gw_W D vwCl (cjW a cA)) (rg (cjA a) z)) (XC := fun z => vx_X (gx_Px rv.1 rv.2.2) (gx_W D vwCl (cjW a cA) rv.1) (rg (cjA a) z)) (cc := cX4_split) (maxL := 3) (ret := (some .int)) (by decide) rfl ?_
  intro p e s m below meth c B htab C V
  obtain ⟨hx, hb, hml, hown, hts, hr, hlk⟩ := id B
  have hl := lv_entry ([.ref (a 0), .int p1]) (n := 3) (Nat.le_of_ble_eq_true rfl)
  rw [lg_entry_eq]
  generalize (lg_sl ([.ref (a 0), .int p1]) ++ List.replicate (3 - (lg_sl ([.ref (a 0), .int p1])).length) Slot.unset).toArray = ls at hl ⊢
  have hl : lv_has ls 3 [(0, .ref (a 0)), (1, .int p1)] := hl
  unfold fcJ_split at h
  refine lv_iload_n hx hb dX4_split_0 rfl (lv_at hl 1 rfl) ?_
  refine lv_aload_n hx hb dX4_split_1 rfl (lv_at hl 0 rfl) ?_
  refine va_get (C := RX4) (T := TX4) (N := 4) (ci := 4) hx hb hts igX4 hown C.1 V.1 0 rfl rfl 2 (by decide) (hts _ kt_158) (fun _ h => h) rfl dX4_split_2 ?_
  refine va_get (C := RX0) (T := TX0) (N := 11) (ci := 0) hx hb hts igX0 hown C.1 V.1 3 rfl rfl 0 (by decide) (hts _ kt_77) (fun _ h => h) rfl dX4_split_5 ?_
  obtain ⟨v1, hv1, h⟩ := bi_e h
  refine gw_ki V (va_runS (As := [.int p1, .int (u.1 0)]) (rest := []) ⟨hx, hb, hml, hown, hts⟩ (mX4_isBelow (D := D) (a := a) (cA := cA) (u := u) hv1) (cwS 2 hts gcjX4_37 rfl rfl rfl (by decide +kernel) ⟨Nat.le_of_ble_eq_true rfl, Nat.le_of_ble_eq_true rfl⟩) (gw_preS gX_ok C V [.int p1, .int (u.1 0)]) rfl rfl hl.1 rfl (lv_room (Nat.le_of_ble_eq_true rfl)) dX4_split_8 ⟨Nat.zero_le _, Nat.zero_le _⟩) (fun H locs V => ?_)
  obtain ⟨v2, hv2, h⟩ := bi_e h
  refine gy_kv V (vx_runS (As := [.int v1]) (rest := []) ⟨hx, hb, hml, hown, hts⟩ (mX4_needKnown hl9 (D := D) (a := a) (cA := cA) (u := u) hv2) (cwS 1 hts gcjX4_41 rfl rfl rfl (by decide +kernel) ⟨Nat.le_of_ble_eq_true rfl, Nat.le_of_ble_eq_true rfl⟩) (gw_preS gX_ok C V [.int v1]) rfl rfl hl.1 rfl (lv_room (Nat.le_of_ble_eq_true rfl)) dX4_split_11 (gkr (gk_le (fun q => in3a (if_f q h))))) (fun k0 H locs ce qe V hat => ?_) (fun k0 H locs V => ?_)
  · have h := if_f k0 h
    exact gx_out htab hlk V hat k0 (in3a h) (in3c h) (gk1 (fun q => k0 ((in3a h).trans q))).1 (gk1 (fun q => k0 ((in3a h).trans q))).2
  have h := if_t k0 h
  refine lv_aload_n hx hb dX4_split_14 rfl (lv_at hl 0 rfl) ?_
  refine va_get (C := RX4) (T := TX4) (N := 4) (ci := 4) hx hb hts igX4 hown C.1 V.1 0 rfl rfl 2 (by decide) (hts _ kt_158) (fun _ h => h) rfl dX4_split_15 ?_
  refine va_get (C := RX0) (T := TX0) (N := 11) (ci := 0) hx hb hts igX0 hown C.1 V.1 3 rfl rfl 8 (by decide) (hts _ kt_93) (fun _ h => h) rfl dX4_split_18 ?_
  refine lv_iload_n hx hb dX4_split_21 rfl (lv_at hl 1 rfl) ?_
  obtain ⟨i3, h⟩ := ck_e h
  refine va_iald hx hb C.1 V.1 19 0 rfl rfl i3 dX4_split_22 ?_
  refine lv_iconst (v := (-1 : Int32)) hx hb dX4_split_23 (by decide) ?_
  refine lv_icmp_eq (tgt := 39) hx hb dX4_split_24 (by decide) (fun c4 => ?_) (fun c4 => ?_)
  · have h := if_t c4 h
    refine lv_iconst (v := (0 : Int32)) hx hb dX4_split_39 (by decide) ?_
    exact LX4_split_40 hl9 B htab C p1 (0 : Int32) u _ _ _ V (lv_sub hl [0, 1] rfl) h
  · have h := if_f c4 h
    refine lv_aload_n hx hb dX4_split_27 rfl (lv_at hl 0 rfl) ?_
    refine lv_iload_n hx hb dX4_split_28 rfl (lv_at hl 1 rfl) ?_
    obtain ⟨v5, hv5, h⟩ := bi_e h
    refine gw_ki V (va_runV (As := [.int p1]) (rest := []) ⟨hx, hb, hml, hown, hts⟩ (mX4_isInOpenEvent (D := D) (a := a) (cA := cA) (u := u) hv5) (cwV 1 hts gcjX4_104 rfl rfl rfl (by decide +kernel) ⟨Nat.le_of_ble_eq_true rfl, Nat.le_of_ble_eq_true rfl⟩) (gw_preV (q0 := 0) (ci := 4) gX_ok C V [.int p1] rfl rfl) rfl rfl hl.1 rfl (lv_room (Nat.le_of_ble_eq_true rfl)) dX4_split_29 ⟨Nat.zero_le _, Nat.zero_le _⟩) (fun H locs V => ?_)
    refine lv_if_eq (tgt := 39) hx hb dX4_split_32 (by decide) (fun c6 => ?_) (fun c6 => ?_)
    · have h := if_t c6 h
      refine lv_iconst (v := (0 : Int32)) hx hb dX4_split_39 (by decide) ?_
      exact LX4_split_40 hl9 B htab C p1 (0 : Int32) u _ _ _ V (lv_sub hl [0, 1] rfl) h
    · have h := if_f c6 h
      refine lv_iconst (v := (1 : Int32)) hx hb dX4_split_35 (by decide) ?_
      refine lv_goto (tgt := 40) hx hb dX4_split_36 (by decide) ?_
      exact LX4_split_40 hl9 B htab C p1 (1 : Int32) u _ _ _ V (lv_sub hl [0, 1] rfl) h
