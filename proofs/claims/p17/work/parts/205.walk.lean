set_option maxHeartbeats 4000000 in
theorem mX0_latestTime {l : Launch} {D : va_G} {a : Nat → Nat} {cA : ClassId} {sz : Nat} {u : g_S}  {rv : Int32} (h : fcA_latestTime u = some rv) : gw_Mi D vwCl [(cA, .int)] (cjA a) gX (cjW a cA) l yX0_latestTime wxX0_latestTime rmX0_latestTime sz u [.ref (a 3)] rv u := by
  refine gw_Mof (Qc := fun z => va_Qi (gw_Pi rv u) (gw_W D vwCl (cjW a cA)) (rg (cjA a) z)) (cc := cX0_latestTime) (maxL := 1) (ret := (some .int)) (by decide) rfl ?_
  intro p e s m below meth c B C V
  obtain ⟨hx, hb, hml, hown, hts, hr, hlk⟩ := id B
  have hl := lv_entry ([.ref (a 3)]) (n := 1) (Nat.le_of_ble_eq_true rfl)
  rw [lg_entry_eq]
  generalize (lg_sl ([.ref (a 3)]) ++ List.replicate (1 - (lg_sl ([.ref (a 3)])).length) Slot.unset).toArray = ls at hl ⊢
  have hl : lv_has ls 1 [(0, .ref (a 3))] := hl
  unfold fcA_latestTime at h
  refine lv_aload_n hx hb dX0_latestTime_0 rfl (lv_at hl 0 rfl) ?_
  refine va_get (C := RX0) (T := TX0) (N := 11) (ci := 0) hx hb hts igX0 hown C.1 V.1 3 rfl rfl 0 (by decide) (hts _ kt_76) (fun _ h => h) rfl dX0_latestTime_1 ?_
  refine lv_if_ne (tgt := 11) hx hb dX0_latestTime_4 (by decide) (fun c1 => ?_) (fun c1 => ?_)
  · have h := if_t c1 h
    refine lv_aload_n hx hb dX0_latestTime_11 rfl (lv_at hl 0 rfl) ?_
    refine va_get (C := RX0) (T := TX0) (N := 11) (ci := 0) hx hb hts igX0 hown C.1 V.1 3 rfl rfl 6 (by decide) (hts _ kt_88) (fun _ h => h) rfl dX0_latestTime_12 ?_
    refine lv_aload_n hx hb dX0_latestTime_15 rfl (lv_at hl 0 rfl) ?_
    refine va_get (C := RX0) (T := TX0) (N := 11) (ci := 0) hx hb hts igX0 hown C.1 V.1 3 rfl rfl 0 (by decide) (hts _ kt_76) (fun _ h => h) rfl dX0_latestTime_16 ?_
    refine lv_iconst (v := (1 : Int32)) hx hb dX0_latestTime_19 (by decide) ?_
    refine lv_isub hx hb dX0_latestTime_20 ?_
    obtain ⟨i2, h⟩ := ck_e h
    refine va_iald hx hb C.1 V.1 17 0 rfl rfl i2 dX0_latestTime_21 ?_
    exact gw_reti hx hb hr rfl hlk V (Option.some.inj h) rfl dX0_latestTime_22
  · have h := if_nn c1 h
    refine lv_iconst (v := (0 : Int32)) hx hb dX0_latestTime_7 (by decide) ?_
    refine lv_goto (tgt := 22) hx hb dX0_latestTime_8 (by decide) ?_
    exact gw_reti hx hb hr rfl hlk V (Option.some.inj h) rfl dX0_latestTime_22
set_option maxHeartbeats 4000000 in
theorem LX4_needCallData_62 {p : Program} {l : Launch} {e : Env} {s : State} {m : MethodId} {below : List Frame} {meth : Method} {c : Code} {args : Array Value} {D : va_G} {a : Nat → Nat} {cA : ClassId} (hl9 : l.stackTraces = false) (B : gw_B p s m args meth c cX4_needCallData 6 none RX4 gT) (htab : ∀ x ∈ c.exceptionTable.toList, False) (C : gw_C D vwCl [(cA, .int)] (cjA a) gX s) {rv : Nat} {u : g_S} : ∀ (x5 : Int32) (y0 : Int32) (H : Heap) (locs : List Loc) (ls : Array Slot), gw_V D vwCl (cjA a) (cjW a cA) s u H locs → lv_has ls 6 [(0, .ref (a 0)), (5, .int x5)] → fcJ_needCallData_62 u x5 y0 = some rv → W p l e (rmX4_needCallData rv) s m args below meth c H locs 0 0 (gx_Ev D vwCl (cjA a) (cjW a cA) below args s (gk rv) (6 * gk rv) rv u) (F0 m 62 ls [.int y0]) := by
  obtain ⟨hx, hb, hml, hown, hts, hr, hlk⟩ := id B
  intro x5 y0 H locs ls V hl h
  unfold fcJ_needCallData_62 at h
  obtain ⟨v1, hv1, h⟩ := bi_e h
  refine gy_kv V (vx_runS (As := [.int y0]) (rest := []) ⟨hx, hb, hml, hown, hts⟩ (mX4_needRange hl9 (D := D) (a := a) (cA := cA) (u := u) hv1) (cwS 1 hts gcjX4_45 rfl rfl rfl (by decide +kernel) ⟨Nat.le_of_ble_eq_true rfl, Nat.le_of_ble_eq_true rfl⟩) (gw_preS gX_ok C V [.int y0]) rfl rfl hl.1 rfl (lv_room (Nat.le_of_ble_eq_true rfl)) dX4_needCallData_62 (gkr (gk_le (fun q => Option.some.inj (if_f q h))))) (fun k0 H locs ce qe V hat => ?_) (fun k0 H locs V => ?_)
  · have h := if_f k0 h
    exact gx_out htab hlk V hat k0 (Option.some.inj h) rfl (gk1 (fun q => k0 ((Option.some.inj h).trans q))).1 (gk1 (fun q => k0 ((Option.some.inj h).trans q))).2
  have h := if_t k0 h
  refine lv_iload hx hb dX4_needCallData_65 (lv_at hl 1 rfl) ?_
  refine lv_aload_n hx hb dX4_needCallData_67 rfl (lv_at hl 0 rfl) ?_
  refine va_get (C := RX4) (T := TX4) (N := 4) (ci := 4) hx hb hts igX4 hown C.1 V.1 0 rfl rfl 2 (by decide) (hts _ kt_158) (fun _ h => h) rfl dX4_needCallData_68 ?_
  obtain ⟨v2, hv2, h⟩ := bi_e h
  refine gw_ki V (va_runV (As := []) (rest := [.int x5]) ⟨hx, hb, hml, hown, hts⟩ (mX0_latestTime (D := D) (a := a) (cA := cA) (u := u) hv2) (cwV 0 hts gcjX4_210 rfl rfl rfl (by decide +kernel) ⟨Nat.le_of_ble_eq_true rfl, Nat.le_of_ble_eq_true rfl⟩) (gw_preV (q0 := 3) (ci := 0) gX_ok C V [] rfl rfl) rfl rfl hl.1 rfl (lv_room (Nat.le_of_ble_eq_true rfl)) dX4_needCallData_71 ⟨Nat.zero_le _, Nat.zero_le _⟩) (fun H locs V => ?_)
  refine lv_icmp_lt (tgt := 81) hx hb dX4_needCallData_74 (by decide) (fun c3 => ?_) (fun c3 => ?_)
  · have h := if_t c3 h
    refine lv_iconst (v := (0 : Int32)) hx hb dX4_needCallData_81 (by decide) ?_
    obtain ⟨v4, hv4, h⟩ := bi_e h
    refine gy_kv V (vx_runS (As := [.int (0 : Int32)]) (rest := []) ⟨hx, hb, hml, hown, hts⟩ (mX4_needRange hl9 (D := D) (a := a) (cA := cA) (u := u) hv4) (cwS 1 hts gcjX4_45 rfl rfl rfl (by decide +kernel) ⟨Nat.le_of_ble_eq_true rfl, Nat.le_of_ble_eq_true rfl⟩) (gw_preS gX_ok C V [.int (0 : Int32)]) rfl rfl hl.1 rfl (lv_room (Nat.le_of_ble_eq_true rfl)) dX4_needCallData_82 (gkr (gk_le (fun q => Option.some.inj (if_f q h))))) (fun k0 H locs ce qe V hat => ?_) (fun k0 H locs V => ?_)
    · have h := if_f k0 h
      exact gx_out htab hlk V hat k0 (Option.some.inj h) rfl (gk1 (fun q => k0 ((Option.some.inj h).trans q))).1 (gk1 (fun q => k0 ((Option.some.inj h).trans q))).2
    have h := if_t k0 h
    exact gx_retv hx hb hr hlk V (Option.some.inj h).symm rfl (Nat.zero_le _) (Nat.zero_le _) dX4_needCallData_85
  · have h := if_f c3 h
    refine lv_iconst (v := (1 : Int32)) hx hb dX4_needCallData_77 (by decide) ?_
    refine lv_goto (tgt := 82) hx hb dX4_needCallData_78 (by decide) ?_
    obtain ⟨v5, hv5, h⟩ := bi_e h
    refine gy_kv V (vx_runS (As := [.int (1 : Int32)]) (rest := []) ⟨hx, hb, hml, hown, hts⟩ (mX4_needRange hl9 (D := D) (a := a) (cA := cA) (u := u) hv5) (cwS 1 hts gcjX4_45 rfl rfl rfl (by decide +kernel) ⟨Nat.le_of_ble_eq_true rfl, Nat.le_of_ble_eq_true rfl⟩) (gw_preS gX_ok C V [.int (1 : Int32)]) rfl rfl hl.1 rfl (lv_room (Nat.le_of_ble_eq_true rfl)) dX4_needCallData_82 (gkr (gk_le (fun q => Option.some.inj (if_f q h))))) (fun k0 H locs ce qe V hat => ?_) (fun k0 H locs V => ?_)
    · have h := if_f k0 h
      exact gx_out htab hlk V hat k0 (Option.some.inj h) rfl (gk1 (fun q => k0 ((Option.some.inj h).trans q))).1 (gk1 (fun q => k0 ((Option.some.inj h).trans q))).2
    have h := if_t k0 h
    exact gx_retv hx hb hr hlk V (Option.some.inj h).symm rfl (Nat.zero_le _) (Nat.zero_le _) dX4_needCallData_85
set_option maxHeartbeats 4000000 in
theorem LX4_needCallData_30 {p : Program} {l : Launch} {e : Env} {s : State} {m : MethodId} {below : List Frame} {meth : Method} {c : Code} {args : Array Value} {D : va_G} {a : Nat → Nat} {cA : ClassId} (hl9 : l.stackTraces = false) (B : gw_B p s m args meth c cX4_needCallData 6 none RX4 gT) (htab : ∀ x ∈ c.exceptionTable.toList, False) (C : gw_C D vwCl [(cA, .int)] (cjA a) gX s) {rv : Nat} {u : g_S} : ∀ (x1 : Int32) (x3 : Int32) (x5 : Int32) (y0 : Int32) (H : Heap) (locs : List Loc) (ls : Array Slot), gw_V D vwCl (cjA a) (cjW a cA) s u H locs → lv_has ls 6 [(0, .ref (a 0)), (1, .int x1), (3, .int x3), (5, .int x5)] → fcJ_needCallData_30 u x1 x3 x5 y0 = some rv → W p l e (rmX4_needCallData rv) s m args below meth c H locs 0 0 (gx_Ev D vwCl (cjA a) (cjW a cA) below args s (gk rv) (6 * gk rv) rv u) (F0 m 30 ls [.int y0]) := by
  obtain ⟨hx, hb, hml, hown, hts, hr, hlk⟩ := id B
  intro x1 x3 x5 y0 H locs ls V hl h
  unfold fcJ_needCallData_30 at h
  obtain ⟨v1, hv1, h⟩ := bi_e h
  refine gy_kv V (vx_runS (As := [.int y0]) (rest := []) ⟨hx, hb, hml, hown, hts⟩ (mX4_needKnown hl9 (D := D) (a := a) (cA := cA) (u := u) hv1) (cwS 1 hts gcjX4_41 rfl rfl rfl (by decide +kernel) ⟨Nat.le_of_ble_eq_true rfl, Nat.le_of_ble_eq_true rfl⟩) (gw_preS gX_ok C V [.int y0]) rfl rfl hl.1 rfl (lv_room (Nat.le_of_ble_eq_true rfl)) dX4_needCallData_30 (gkr (gk_le (fun q => Option.some.inj (if_f q h))))) (fun k0 H locs ce qe V hat => ?_) (fun k0 H locs V => ?_)
  · have h := if_f k0 h
    exact gx_out htab hlk V hat k0 (Option.some.inj h) rfl (gk1 (fun q => k0 ((Option.some.inj h).trans q))).1 (gk1 (fun q => k0 ((Option.some.inj h).trans q))).2
  have h := if_t k0 h
  refine lv_iload_n hx hb dX4_needCallData_33 rfl (lv_at hl 1 rfl) ?_
  refine lv_sipush (v := (1000 : Int32)) hx hb dX4_needCallData_34 (by decide) ?_
  obtain ⟨v2, hv2, h⟩ := bi_e h
  refine gw_ki V (va_runS (As := [.int x1, .int (1000 : Int32)]) (rest := []) ⟨hx, hb, hml, hown, hts⟩ (mX4_isBelow (D := D) (a := a) (cA := cA) (u := u) hv2) (cwS 2 hts gcjX4_37 rfl rfl rfl (by decide +kernel) ⟨Nat.le_of_ble_eq_true rfl, Nat.le_of_ble_eq_true rfl⟩) (gw_preS gX_ok C V [.int x1, .int (1000 : Int32)]) rfl rfl hl.1 rfl (lv_room (Nat.le_of_ble_eq_true rfl)) dX4_needCallData_37 ⟨Nat.zero_le _, Nat.zero_le _⟩) (fun H locs V => ?_)
  obtain ⟨v3, hv3, h⟩ := bi_e h
  refine gy_kv V (vx_runS (As := [.int v2]) (rest := []) ⟨hx, hb, hml, hown, hts⟩ (mX4_needRange hl9 (D := D) (a := a) (cA := cA) (u := u) hv3) (cwS 1 hts gcjX4_45 rfl rfl rfl (by decide +kernel) ⟨Nat.le_of_ble_eq_true rfl, Nat.le_of_ble_eq_true rfl⟩) (gw_preS gX_ok C V [.int v2]) rfl rfl hl.1 rfl (lv_room (Nat.le_of_ble_eq_true rfl)) dX4_needCallData_40 (gkr (gk_le (fun q => Option.some.inj (if_f q h))))) (fun k0 H locs ce qe V hat => ?_) (fun k0 H locs V => ?_)
  · have h := if_f k0 h
    exact gx_out htab hlk V hat k0 (Option.some.inj h) rfl (gk1 (fun q => k0 ((Option.some.inj h).trans q))).1 (gk1 (fun q => k0 ((Option.some.inj h).trans q))).2
  have h := if_t k0 h
  refine lv_iload_n hx hb dX4_needCallData_43 rfl (lv_at hl 2 rfl) ?_
  refine lv_iconst (v := (-1 : Int32)) hx hb dX4_needCallData_44 (by decide) ?_
  refine lv_icmp_eq (tgt := 57) hx hb dX4_needCallData_45 (by decide) (fun c4 => ?_) (fun c4 => ?_)
  · have h := if_t c4 h
    refine lv_iconst (v := (1 : Int32)) hx hb dX4_needCallData_57 (by decide) ?_
    refine lv_goto (tgt := 62) hx hb dX4_needCallData_58 (by decide) ?_
    exact LX4_needCallData_62 hl9 B htab C x5 (1 : Int32) _ _ _ V (lv_sub hl [0, 3] rfl) h
  · have h := if_f c4 h
    refine lv_iload_n hx hb dX4_needCallData_48 rfl (lv_at hl 2 rfl) ?_
    refine lv_ldc (v := (100000000 : Int32)) hx hb hown (hts _ kt_289) dX4_needCallData_49 ?_
    obtain ⟨v5, hv5, h⟩ := bi_e h
    refine gw_ki V (va_runS (As := [.int x3, .int (100000000 : Int32)]) (rest := []) ⟨hx, hb, hml, hown, hts⟩ (mX4_isBelow (D := D) (a := a) (cA := cA) (u := u) hv5) (cwS 2 hts gcjX4_37 rfl rfl rfl (by decide +kernel) ⟨Nat.le_of_ble_eq_true rfl, Nat.le_of_ble_eq_true rfl⟩) (gw_preS gX_ok C V [.int x3, .int (100000000 : Int32)]) rfl rfl hl.1 rfl (lv_room (Nat.le_of_ble_eq_true rfl)) dX4_needCallData_51 ⟨Nat.zero_le _, Nat.zero_le _⟩) (fun H locs V => ?_)
    refine lv_if_eq (tgt := 61) hx hb dX4_needCallData_54 (by decide) (fun c6 => ?_) (fun c6 => ?_)
    · have h := if_t c6 h
      refine lv_iconst (v := (0 : Int32)) hx hb dX4_needCallData_61 (by decide) ?_
      exact LX4_needCallData_62 hl9 B htab C x5 (0 : Int32) _ _ _ V (lv_sub hl [0, 3] rfl) h
    · have h := if_f c6 h
      refine lv_iconst (v := (1 : Int32)) hx hb dX4_needCallData_57 (by decide) ?_
      refine lv_goto (tgt := 62) hx hb dX4_needCallData_58 (by decide) ?_
      exact LX4_needCallData_62 hl9 B htab C x5 (1 : Int32) _ _ _ V (lv_sub hl [0, 3] rfl) h
set_option maxHeartbeats 4000000 in
theorem mX4_needCallData {l : Launch} (hl9 : l.stackTraces = false) {D : va_G} {a : Nat → Nat} {cA : ClassId} {sz : Nat} {u : g_S} {p1 : Int32} {p2 : Int32} {p3 : Int32} {p4 : Int32} {p5 : Int32} {rv : Nat} (h : fcJ_needCallData u p1 p2 p3 p4 p5 = some rv) : gx_Mv D vwCl [(cA, .int)] (cjA a) gX (cjW a cA) l yX4_needCallData wxX4_needCallData (rmX4_needCallData rv) (gk rv) (6 * gk rv) sz u [.ref (a 0), .int p1, .int p2, .int p3, .int p4, .int p5] rv u := by
  refine gx_Mof (Qc := fun z => va_Qv (gx_Pv rv u) (gw_W D vwCl (cjW a cA)) (rg (cjA a) z)) (XC := fun z => vx_X (gx_Px rv u) (gx_W D vwCl (cjW a cA) rv) (rg (cjA a) z)) (cc := cX4_needCallData) (maxL := 6) (ret := none) (by decide) rfl ?_
  intro p e s m below meth c B htab C V
  obtain ⟨hx, hb, hml, hown, hts, hr, hlk⟩ := id B
  have hl := lv_entry ([.ref (a 0), .int p1, .int p2, .int p3, .int p4, .int p5]) (n := 6) (Nat.le_of_ble_eq_true rfl)
  rw [lg_entry_eq]
  generalize (lg_sl ([.ref (a 0), .int p1, .int p2, .int p3, .int p4, .int p5]) ++ List.replicate (6 - (lg_sl ([.ref (a 0), .int p1, .int p2, .int p3, .int p4, .int p5])).length) Slot.unset).toArray = ls at hl ⊢
  have hl : lv_has ls 6 [(0, .ref (a 0)), (1, .int p1), (2, .int p2), (3, .int p3), (4, .int p4), (5, .int p5)] := hl
  unfold fcJ_needCallData at h
  refine lv_iload_n hx hb dX4_needCallData_0 rfl (lv_at hl 2 rfl) ?_
  refine lv_bipush (v := (8 : Int32)) hx hb dX4_needCallData_1 (by decide) ?_
  obtain ⟨v1, hv1, h⟩ := bi_e h
  refine gw_ki V (va_runS (As := [.int p2, .int (8 : Int32)]) (rest := []) ⟨hx, hb, hml, hown, hts⟩ (mX4_isBelow (D := D) (a := a) (cA := cA) (u := u) hv1) (cwS 2 hts gcjX4_37 rfl rfl rfl (by decide +kernel) ⟨Nat.le_of_ble_eq_true rfl, Nat.le_of_ble_eq_true rfl⟩) (gw_preS gX_ok C V [.int p2, .int (8 : Int32)]) rfl rfl hl.1 rfl (lv_room (Nat.le_of_ble_eq_true rfl)) dX4_needCallData_3 ⟨Nat.zero_le _, Nat.zero_le _⟩) (fun H locs V => ?_)
  obtain ⟨v2, hv2, h⟩ := bi_e h
  refine gy_kv V (vx_runS (As := [.int v1]) (rest := []) ⟨hx, hb, hml, hown, hts⟩ (mX4_needKnown hl9 (D := D) (a := a) (cA := cA) (u := u) hv2) (cwS 1 hts gcjX4_41 rfl rfl rfl (by decide +kernel) ⟨Nat.le_of_ble_eq_true rfl, Nat.le_of_ble_eq_true rfl⟩) (gw_preS gX_ok C V [.int v1]) rfl rfl hl.1 rfl (lv_room (Nat.le_of_ble_eq_true rfl)) dX4_needCallData_6 (gkr (gk_le (fun q => Option.some.inj (if_f q h))))) (fun k0 H locs ce qe V hat => ?_) (fun k0 H locs V => ?_)
  · have h := if_f k0 h
    exact gx_out htab hlk V hat k0 (Option.some.inj h) rfl (gk1 (fun q => k0 ((Option.some.inj h).trans q))).1 (gk1 (fun q => k0 ((Option.some.inj h).trans q))).2
  have h := if_t k0 h
  refine lv_iload hx hb dX4_needCallData_9 (lv_at hl 4 rfl) ?_
  refine lv_iconst (v := (-1 : Int32)) hx hb dX4_needCallData_11 (by decide) ?_
  refine lv_icmp_eq (tgt := 25) hx hb dX4_needCallData_12 (by decide) (fun c3 => ?_) (fun c3 => ?_)
  · have h := if_t c3 h
    refine lv_iconst (v := (1 : Int32)) hx hb dX4_needCallData_25 (by decide) ?_
    refine lv_goto (tgt := 30) hx hb dX4_needCallData_26 (by decide) ?_
    exact LX4_needCallData_30 hl9 B htab C p1 p3 p5 (1 : Int32) _ _ _ V (lv_sub hl [0, 1, 3, 5] rfl) h
  · have h := if_f c3 h
    refine lv_iload hx hb dX4_needCallData_15 (lv_at hl 4 rfl) ?_
    refine lv_bipush (v := (8 : Int32)) hx hb dX4_needCallData_17 (by decide) ?_
    obtain ⟨v4, hv4, h⟩ := bi_e h
    refine gw_ki V (va_runS (As := [.int p4, .int (8 : Int32)]) (rest := []) ⟨hx, hb, hml, hown, hts⟩ (mX4_isBelow (D := D) (a := a) (cA := cA) (u := u) hv4) (cwS 2 hts gcjX4_37 rfl rfl rfl (by decide +kernel) ⟨Nat.le_of_ble_eq_true rfl, Nat.le_of_ble_eq_true rfl⟩) (gw_preS gX_ok C V [.int p4, .int (8 : Int32)]) rfl rfl hl.1 rfl (lv_room (Nat.le_of_ble_eq_true rfl)) dX4_needCallData_19 ⟨Nat.zero_le _, Nat.zero_le _⟩) (fun H locs V => ?_)
    refine lv_if_eq (tgt := 29) hx hb dX4_needCallData_22 (by decide) (fun c5 => ?_) (fun c5 => ?_)
    · have h := if_t c5 h
      refine lv_iconst (v := (0 : Int32)) hx hb dX4_needCallData_29 (by decide) ?_
      exact LX4_needCallData_30 hl9 B htab C p1 p3 p5 (0 : Int32) _ _ _ V (lv_sub hl [0, 1, 3, 5] rfl) h
    · have h := if_f c5 h
      refine lv_iconst (v := (1 : Int32)) hx hb dX4_needCallData_25 (by decide) ?_
      refine lv_goto (tgt := 30) hx hb dX4_needCallData_26 (by decide) ?_
      exact LX4_needCallData_30 hl9 B htab C p1 p3 p5 (1 : Int32) _ _ _ V (lv_sub hl [0, 1, 3, 5] rfl) h
set_option maxHeartbeats 4000000 in
theorem mX0_draft {l : Launch} {D : va_G} {a : Nat → Nat} {cA : ClassId} {sz : Nat} {u : g_S} {p1 : Int32} {p2 : Int32} {p3 : Int32} {p4 : Int32} {p5 : Int32} {p6 : Int32} {rv : Int32 × g_S} (h : fcA_draft u p1 p2 p3 p4 p5 p6 = some rv) : gw_Mi D vwCl [(cA, .int)] (cjA a) gX (cjW a cA) l yX0_draft wxX0_draft rmX0_draft sz u [.ref (a 3), .int p1, .int p2, .int p3, .int p4, .int p5, .int p6] rv.1 rv.2 := by
  refine gw_Mof (Qc := fun z => va_Qi (gw_Pi rv.1 rv.2) (gw_W D vwCl (cjW a cA)) (rg (cjA a) z)) (cc := cX0_draft) (maxL := 7) (ret := (some .int)) (by decide) rfl ?_
  intro p e s m below meth c B C V
  obtain ⟨hx, hb, hml, hown, hts, hr, hlk⟩ := id B
  have hl := lv_entry ([.ref (a 3), .int p1, .int p2, .int p3, .int p4, .int p5, .int p6]) (n := 7) (Nat.le_of_ble_eq_true rfl)
  rw [lg_entry_eq]
  generalize (lg_sl ([.ref (a 3), .int p1, .int p2, .int p3, .int p4, .int p5, .int p6]) ++ List.replicate (7 - (lg_sl ([.ref (a 3), .int p1, .int p2, .int p3, .int p4, .int p5, .int p6])).length) Slot.unset).toArray = ls at hl ⊢
  have hl : lv_has ls 7 [(0, .ref (a 3)), (1, .int p1), (2, .int p2), (3, .int p3), (4, .int p4), (5, .int p5), (6, .int p6)] := hl
  unfold fcA_draft at h
  refine lv_aload_n hx hb dX0_draft_0 rfl (lv_at hl 0 rfl) ?_
  refine va_get (C := RX0) (T := TX0) (N := 11) (ci := 0) hx hb hts igX0 hown C.1 V.1 3 rfl rfl 1 (by decide) (hts _ kt_78) (fun _ h => h) rfl dX0_draft_1 ?_
  refine lv_aload_n hx hb dX0_draft_4 rfl (lv_at hl 0 rfl) ?_
  refine va_get (C := RX0) (T := TX0) (N := 11) (ci := 0) hx hb hts igX0 hown C.1 V.1 3 rfl rfl 0 (by decide) (hts _ kt_76) (fun _ h => h) rfl dX0_draft_5 ?_
  refine lv_iload_n hx hb dX0_draft_8 rfl (lv_at hl 1 rfl) ?_
  obtain ⟨i1, h⟩ := ck_e h
  obtain ⟨u2, eu2, h⟩ := gl_e h
  refine gw_iast (u' := u2) hx hb (cjW_as a cA) C V 12 0 rfl rfl i1 (cjS_7 _ _ _ _ _ _ eu2) dX0_draft_9 (fun H locs V => ?_)
  refine lv_aload_n hx hb dX0_draft_10 rfl (lv_at hl 0 rfl) ?_
  refine va_get (C := RX0) (T := TX0) (N := 11) (ci := 0) hx hb hts igX0 hown C.1 V.1 3 rfl rfl 2 (by decide) (hts _ kt_80) (fun _ h => h) rfl dX0_draft_11 ?_
  refine lv_aload_n hx hb dX0_draft_14 rfl (lv_at hl 0 rfl) ?_
  refine va_get (C := RX0) (T := TX0) (N := 11) (ci := 0) hx hb hts igX0 hown C.1 V.1 3 rfl rfl 0 (by decide) (hts _ kt_76) (fun _ h => h) rfl dX0_draft_15 ?_
  refine lv_iload_n hx hb dX0_draft_18 rfl (lv_at hl 2 rfl) ?_
  obtain ⟨i3, h⟩ := ck_e h
  obtain ⟨u4, eu4, h⟩ := gl_e h
  refine gw_iast (u' := u4) hx hb (cjW_as a cA) C V 13 0 rfl rfl i3 (cjS_8 _ _ _ _ _ _ eu4) dX0_draft_19 (fun H locs V => ?_)
  refine lv_aload_n hx hb dX0_draft_20 rfl (lv_at hl 0 rfl) ?_
  refine va_get (C := RX0) (T := TX0) (N := 11) (ci := 0) hx hb hts igX0 hown C.1 V.1 3 rfl rfl 3 (by decide) (hts _ kt_82) (fun _ h => h) rfl dX0_draft_21 ?_
  refine lv_aload_n hx hb dX0_draft_24 rfl (lv_at hl 0 rfl) ?_
  refine va_get (C := RX0) (T := TX0) (N := 11) (ci := 0) hx hb hts igX0 hown C.1 V.1 3 rfl rfl 0 (by decide) (hts _ kt_76) (fun _ h => h) rfl dX0_draft_25 ?_
  refine lv_iload_n hx hb dX0_draft_28 rfl (lv_at hl 3 rfl) ?_
  obtain ⟨i5, h⟩ := ck_e h
  obtain ⟨u6, eu6, h⟩ := gl_e h
  refine gw_iast (u' := u6) hx hb (cjW_as a cA) C V 14 0 rfl rfl i5 (cjS_9 _ _ _ _ _ _ eu6) dX0_draft_29 (fun H locs V => ?_)
  refine lv_aload_n hx hb dX0_draft_30 rfl (lv_at hl 0 rfl) ?_
  refine va_get (C := RX0) (T := TX0) (N := 11) (ci := 0) hx hb hts igX0 hown C.1 V.1 3 rfl rfl 4 (by decide) (hts _ kt_84) (fun _ h => h) rfl dX0_draft_31 ?_
  refine lv_aload_n hx hb dX0_draft_34 rfl (lv_at hl 0 rfl) ?_
  refine va_get (C := RX0) (T := TX0) (N := 11) (ci := 0) hx hb hts igX0 hown C.1 V.1 3 rfl rfl 0 (by decide) (hts _ kt_76) (fun _ h => h) rfl dX0_draft_35 ?_
  refine lv_iload hx hb dX0_draft_38 (lv_at hl 4 rfl) ?_
  obtain ⟨i7, h⟩ := ck_e h
  obtain ⟨u8, eu8, h⟩ := gl_e h
  refine gw_iast (u' := u8) hx hb (cjW_as a cA) C V 15 0 rfl rfl i7 (cjS_10 _ _ _ _ _ _ eu8) dX0_draft_40 (fun H locs V => ?_)
  refine lv_aload_n hx hb dX0_draft_41 rfl (lv_at hl 0 rfl) ?_
  refine va_get (C := RX0) (T := TX0) (N := 11) (ci := 0) hx hb hts igX0 hown C.1 V.1 3 rfl rfl 5 (by decide) (hts _ kt_86) (fun _ h => h) rfl dX0_draft_42 ?_
  refine lv_aload_n hx hb dX0_draft_45 rfl (lv_at hl 0 rfl) ?_
  refine va_get (C := RX0) (T := TX0) (N := 11) (ci := 0) hx hb hts igX0 hown C.1 V.1 3 rfl rfl 0 (by decide) (hts _ kt_76) (fun _ h => h) rfl dX0_draft_46 ?_
  refine lv_iload hx hb dX0_draft_49 (lv_at hl 5 rfl) ?_
  obtain ⟨i9, h⟩ := ck_e h
  obtain ⟨u10, eu10, h⟩ := gl_e h
  refine gw_iast (u' := u10) hx hb (cjW_as a cA) C V 16 0 rfl rfl i9 (cjS_11 _ _ _ _ _ _ eu10) dX0_draft_51 (fun H locs V => ?_)
  refine lv_aload_n hx hb dX0_draft_52 rfl (lv_at hl 0 rfl) ?_
  refine va_get (C := RX0) (T := TX0) (N := 11) (ci := 0) hx hb hts igX0 hown C.1 V.1 3 rfl rfl 6 (by decide) (hts _ kt_88) (fun _ h => h) rfl dX0_draft_53 ?_
  refine lv_aload_n hx hb dX0_draft_56 rfl (lv_at hl 0 rfl) ?_
  refine va_get (C := RX0) (T := TX0) (N := 11) (ci := 0) hx hb hts igX0 hown C.1 V.1 3 rfl rfl 0 (by decide) (hts _ kt_76) (fun _ h => h) rfl dX0_draft_57 ?_
  refine lv_iload hx hb dX0_draft_60 (lv_at hl 6 rfl) ?_
  obtain ⟨i11, h⟩ := ck_e h
  obtain ⟨u12, eu12, h⟩ := gl_e h
  refine gw_iast (u' := u12) hx hb (cjW_as a cA) C V 17 0 rfl rfl i11 (cjS_12 _ _ _ _ _ _ eu12) dX0_draft_62 (fun H locs V => ?_)
  refine lv_aload_n hx hb dX0_draft_63 rfl (lv_at hl 0 rfl) ?_
  refine va_get (C := RX0) (T := TX0) (N := 11) (ci := 0) hx hb hts igX0 hown C.1 V.1 3 rfl rfl 8 (by decide) (hts _ kt_92) (fun _ h => h) rfl dX0_draft_64 ?_
  refine lv_aload_n hx hb dX0_draft_67 rfl (lv_at hl 0 rfl) ?_
  refine va_get (C := RX0) (T := TX0) (N := 11) (ci := 0) hx hb hts igX0 hown C.1 V.1 3 rfl rfl 0 (by decide) (hts _ kt_76) (fun _ h => h) rfl dX0_draft_68 ?_
  refine lv_iconst (v := (-1 : Int32)) hx hb dX0_draft_71 (by decide) ?_
  obtain ⟨i13, h⟩ := ck_e h
  obtain ⟨u14, eu14, h⟩ := gl_e h
  refine gw_iast (u' := u14) hx hb (cjW_as a cA) C V 19 0 rfl rfl i13 (cjS_14 _ _ _ _ _ _ eu14) dX0_draft_72 (fun H locs V => ?_)
  refine lv_aload_n hx hb dX0_draft_73 rfl (lv_at hl 0 rfl) ?_
  refine va_get (C := RX0) (T := TX0) (N := 11) (ci := 0) hx hb hts igX0 hown C.1 V.1 3 rfl rfl 9 (by decide) (hts _ kt_94) (fun _ h => h) rfl dX0_draft_74 ?_
  refine lv_aload_n hx hb dX0_draft_77 rfl (lv_at hl 0 rfl) ?_
  refine va_get (C := RX0) (T := TX0) (N := 11) (ci := 0) hx hb hts igX0 hown C.1 V.1 3 rfl rfl 0 (by decide) (hts _ kt_76) (fun _ h => h) rfl dX0_draft_78 ?_
  refine lv_iconst (v := (0 : Int32)) hx hb dX0_draft_81 (by decide) ?_
  obtain ⟨i15, h⟩ := ck_e h
  obtain ⟨u16, eu16, h⟩ := gl_e h
  refine gw_iast (u' := u16) hx hb (cjW_as a cA) C V 20 0 rfl rfl i15 (cjS_15 _ _ _ _ _ _ eu16) dX0_draft_82 (fun H locs V => ?_)
  refine lv_aload_n hx hb dX0_draft_83 rfl (lv_at hl 0 rfl) ?_
  refine va_get (C := RX0) (T := TX0) (N := 11) (ci := 0) hx hb hts igX0 hown C.1 V.1 3 rfl rfl 10 (by decide) (hts _ kt_96) (fun _ h => h) rfl dX0_draft_84 ?_
  refine lv_aload_n hx hb dX0_draft_87 rfl (lv_at hl 0 rfl) ?_
  refine va_get (C := RX0) (T := TX0) (N := 11) (ci := 0) hx hb hts igX0 hown C.1 V.1 3 rfl rfl 0 (by decide) (hts _ kt_76) (fun _ h => h) rfl dX0_draft_88 ?_
  refine lv_iconst (v := (0 : Int32)) hx hb dX0_draft_91 (by decide) ?_
  obtain ⟨i17, h⟩ := ck_e h
  obtain ⟨u18, eu18, h⟩ := gl_e h
  refine gw_iast (u' := u18) hx hb (cjW_as a cA) C V 21 0 rfl rfl i17 (cjS_16 _ _ _ _ _ _ eu18) dX0_draft_92 (fun H locs V => ?_)
  refine lv_aload_n hx hb dX0_draft_93 rfl (lv_at hl 0 rfl) ?_
  refine va_get (C := RX0) (T := TX0) (N := 11) (ci := 0) hx hb hts igX0 hown C.1 V.1 3 rfl rfl 0 (by decide) (hts _ kt_76) (fun _ h => h) rfl dX0_draft_94 ?_
  exact gw_reti hx hb hr rfl hlk V (in2a h) (in2b h) dX0_draft_97
set_option maxHeartbeats 4000000 in
theorem mX0_isHoax {l : Launch} {D : va_G} {a : Nat → Nat} {cA : ClassId} {sz : Nat} {u : g_S} {p1 : Int32} {rv : Int32} (h : fcA_isHoax u p1 = some rv) : gw_Mi D vwCl [(cA, .int)] (cjA a) gX (cjW a cA) l yX0_isHoax wxX0_isHoax rmX0_isHoax sz u [.ref (a 3), .int p1] rv u := by
  refine gw_Mof (Qc := fun z => va_Qi (gw_Pi rv u) (gw_W D vwCl (cjW a cA)) (rg (cjA a) z)) (cc := cX0_isHoax) (maxL := 2) (ret := (some .boolean)) (by decide) rfl ?_
  intro p e s m below meth c B C V
  obtain ⟨hx, hb, hml, hown, hts, hr, hlk⟩ := id B
  have hl := lv_entry ([.ref (a 3), .int p1]) (n := 2) (Nat.le_of_ble_eq_true rfl)
  rw [lg_entry_eq]
  generalize (lg_sl ([.ref (a 3), .int p1]) ++ List.replicate (2 - (lg_sl ([.ref (a 3), .int p1])).length) Slot.unset).toArray = ls at hl ⊢
  have hl : lv_has ls 2 [(0, .ref (a 3)), (1, .int p1)] := hl
  unfold fcA_isHoax at h
  refine lv_aload_n hx hb dX0_isHoax_0 rfl (lv_at hl 0 rfl) ?_
  refine va_get (C := RX0) (T := TX0) (N := 11) (ci := 0) hx hb hts igX0 hown C.1 V.1 3 rfl rfl 10 (by decide) (hts _ kt_96) (fun _ h => h) rfl dX0_isHoax_1 ?_
  refine lv_iload_n hx hb dX0_isHoax_4 rfl (lv_at hl 1 rfl) ?_
  obtain ⟨i1, h⟩ := ck_e h
  refine va_iald hx hb C.1 V.1 21 0 rfl rfl i1 dX0_isHoax_5 ?_
  refine lv_iconst (v := (4 : Int32)) hx hb dX0_isHoax_6 (by decide) ?_
  refine lv_iand hx hb dX0_isHoax_7 ?_
  refine lv_if_eq (tgt := 15) hx hb dX0_isHoax_8 (by decide) (fun c2 => ?_) (fun c2 => ?_)
  · have h := if_t c2 h
    refine lv_iconst (v := (0 : Int32)) hx hb dX0_isHoax_15 (by decide) ?_
    exact gw_reti hx hb hr (nar_z (Or.inl rfl)) hlk V (Option.some.inj h) rfl dX0_isHoax_16
  · have h := if_f c2 h
    refine lv_iconst (v := (1 : Int32)) hx hb dX0_isHoax_11 (by decide) ?_
    refine lv_goto (tgt := 16) hx hb dX0_isHoax_12 (by decide) ?_
    exact gw_reti hx hb hr (nar_z (Or.inr rfl)) hlk V (Option.some.inj h) rfl dX0_isHoax_16
set_option maxHeartbeats 4000000 in
theorem mX4_isInOpenEvent {l : Launch} {D : va_G} {a : Nat → Nat} {cA : ClassId} {sz : Nat} {u : g_S} {p1 : Int32} {rv : Int32} (h : fcJ_isInOpenEvent u p1 = some rv) : gw_Mi D vwCl [(cA, .int)] (cjA a) gX (cjW a cA) l yX4_isInOpenEvent wxX4_isInOpenEvent rmX4_isInOpenEvent sz u [.ref (a 0), .int p1] rv u := by
  refine gw_Mof (Qc := fun z => va_Qi (gw_Pi rv u) (gw_W D vwCl (cjW a cA)) (rg (cjA a) z)) (cc := cX4_isInOpenEvent) (maxL := 2) (ret := (some .boolean)) (by decide) rfl ?_
  intro p e s m below meth c B C V
  obtain ⟨hx, hb, hml, hown, hts, hr, hlk⟩ := id B
  have hl := lv_entry ([.ref (a 0), .int p1]) (n := 2) (Nat.le_of_ble_eq_true rfl)
  rw [lg_entry_eq]
  generalize (lg_sl ([.ref (a 0), .int p1]) ++ List.replicate (2 - (lg_sl ([.ref (a 0), .int p1])).length) Slot.unset).toArray = ls at hl ⊢
  have hl : lv_has ls 2 [(0, .ref (a 0)), (1, .int p1)] := hl
  unfold fcJ_isInOpenEvent at h
  refine lv_aload_n hx hb dX4_isInOpenEvent_0 rfl (lv_at hl 0 rfl) ?_
  refine va_get (C := RX4) (T := TX4) (N := 4) (ci := 4) hx hb hts igX4 hown C.1 V.1 0 rfl rfl 3 (by decide) (hts _ kt_159) (fun _ h => h) rfl dX4_isInOpenEvent_1 ?_
  refine va_get (C := RX1) (T := TX1) (N := 7) (ci := 1) hx hb hts igX1 hown C.1 V.1 4 rfl rfl 1 (by decide) (hts _ kt_130) (fun _ h => h) rfl dX4_isInOpenEvent_4 ?_
  refine lv_aload_n hx hb dX4_isInOpenEvent_7 rfl (lv_at hl 0 rfl) ?_
  refine va_get (C := RX4) (T := TX4) (N := 4) (ci := 4) hx hb hts igX4 hown C.1 V.1 0 rfl rfl 2 (by decide) (hts _ kt_158) (fun _ h => h) rfl dX4_isInOpenEvent_8 ?_
  refine va_get (C := RX0) (T := TX0) (N := 11) (ci := 0) hx hb hts igX0 hown C.1 V.1 3 rfl rfl 7 (by decide) (hts _ kt_91) (fun _ h => h) rfl dX4_isInOpenEvent_11 ?_
  refine lv_iload_n hx hb dX4_isInOpenEvent_14 rfl (lv_at hl 1 rfl) ?_
  obtain ⟨i1, h⟩ := ck_e h
  refine va_iald hx hb C.1 V.1 18 0 rfl rfl i1 dX4_isInOpenEvent_15 ?_
  obtain ⟨i2, h⟩ := ck_e h
  refine va_iald hx hb C.1 V.1 22 0 rfl rfl i2 dX4_isInOpenEvent_16 ?_
  refine lv_if_ne (tgt := 24) hx hb dX4_isInOpenEvent_17 (by decide) (fun c3 => ?_) (fun c3 => ?_)
  · have h := if_t c3 h
    refine lv_iconst (v := (0 : Int32)) hx hb dX4_isInOpenEvent_24 (by decide) ?_
    exact gw_reti hx hb hr (nar_z (Or.inl rfl)) hlk V (Option.some.inj h) rfl dX4_isInOpenEvent_25
  · have h := if_nn c3 h
    refine lv_iconst (v := (1 : Int32)) hx hb dX4_isInOpenEvent_20 (by decide) ?_
    refine lv_goto (tgt := 25) hx hb dX4_isInOpenEvent_21 (by decide) ?_
    exact gw_reti hx hb hr (nar_z (Or.inr rfl)) hlk V (Option.some.inj h) rfl dX4_isInOpenEvent_25
set_option maxHeartbeats 4000000 in
theorem mX4_canBeReason {l : Launch} {D : va_G} {a : Nat → Nat} {cA : ClassId} {sz : Nat} {u : g_S} {p1 : Int32} {rv : Int32} (h : fcJ_canBeReason u p1 = some rv) : gw_Mi D vwCl [(cA, .int)] (cjA a) gX (cjW a cA) l yX4_canBeReason wxX4_canBeReason rmX4_canBeReason sz u [.ref (a 0), .int p1] rv u := by
  refine gw_Mof (Qc := fun z => va_Qi (gw_Pi rv u) (gw_W D vwCl (cjW a cA)) (rg (cjA a) z)) (cc := cX4_canBeReason) (maxL := 2) (ret := (some .boolean)) (by decide) rfl ?_
  intro p e s m below meth c B C V
  obtain ⟨hx, hb, hml, hown, hts, hr, hlk⟩ := id B
  have hl := lv_entry ([.ref (a 0), .int p1]) (n := 2) (Nat.le_of_ble_eq_true rfl)
  rw [lg_entry_eq]
  generalize (lg_sl ([.ref (a 0), .int p1]) ++ List.replicate (2 - (lg_sl ([.ref (a 0), .int p1])).length) Slot.unset).toArray = ls at hl ⊢
  have hl : lv_has ls 2 [(0, .ref (a 0)), (1, .int p1)] := hl
  unfold fcJ_canBeReason at h
  refine lv_aload_n hx hb dX4_canBeReason_0 rfl (lv_at hl 0 rfl) ?_
  refine va_get (C := RX4) (T := TX4) (N := 4) (ci := 4) hx hb hts igX4 hown C.1 V.1 0 rfl rfl 2 (by decide) (hts _ kt_158) (fun _ h => h) rfl dX4_canBeReason_1 ?_
  refine lv_iload_n hx hb dX4_canBeReason_4 rfl (lv_at hl 1 rfl) ?_
  obtain ⟨v1, hv1, h⟩ := bi_e h
  refine gw_ki V (va_runV (As := [.int p1]) (rest := []) ⟨hx, hb, hml, hown, hts⟩ (mX0_isHoax (D := D) (a := a) (cA := cA) (u := u) hv1) (cwV 1 hts gcjX4_213 rfl rfl rfl (by decide +kernel) ⟨Nat.le_of_ble_eq_true rfl, Nat.le_of_ble_eq_true rfl⟩) (gw_preV (q0 := 3) (ci := 0) gX_ok C V [.int p1] rfl rfl) rfl rfl hl.1 rfl (lv_room (Nat.le_of_ble_eq_true rfl)) dX4_canBeReason_5 ⟨Nat.zero_le _, Nat.zero_le _⟩) (fun H locs V => ?_)
  refine lv_if_ne (tgt := 23) hx hb dX4_canBeReason_8 (by decide) (fun c2 => ?_) (fun c2 => ?_)
  · have h := if_t c2 h
    refine lv_iconst (v := (0 : Int32)) hx hb dX4_canBeReason_23 (by decide) ?_
    exact gw_reti hx hb hr (nar_z (Or.inl rfl)) hlk V (Option.some.inj h) rfl dX4_canBeReason_24
  · have h := if_nn c2 h
    refine lv_aload_n hx hb dX4_canBeReason_11 rfl (lv_at hl 0 rfl) ?_
    refine lv_iload_n hx hb dX4_canBeReason_12 rfl (lv_at hl 1 rfl) ?_
    obtain ⟨v3, hv3, h⟩ := bi_e h
    refine gw_ki V (va_runV (As := [.int p1]) (rest := []) ⟨hx, hb, hml, hown, hts⟩ (mX4_isInOpenEvent (D := D) (a := a) (cA := cA) (u := u) hv3) (cwV 1 hts gcjX4_104 rfl rfl rfl (by decide +kernel) ⟨Nat.le_of_ble_eq_true rfl, Nat.le_of_ble_eq_true rfl⟩) (gw_preV (q0 := 0) (ci := 4) gX_ok C V [.int p1] rfl rfl) rfl rfl hl.1 rfl (lv_room (Nat.le_of_ble_eq_true rfl)) dX4_canBeReason_13 ⟨Nat.zero_le _, Nat.zero_le _⟩) (fun H locs V => ?_)
    refine lv_if_eq (tgt := 23) hx hb dX4_canBeReason_16 (by decide) (fun c4 => ?_) (fun c4 => ?_)
    · have h := if_t c4 h
      refine lv_iconst (v := (0 : Int32)) hx hb dX4_canBeReason_23 (by decide) ?_
      exact gw_reti hx hb hr (nar_z (Or.inl rfl)) hlk V (Option.some.inj h) rfl dX4_canBeReason_24
    · have h := if_f c4 h
      refine lv_iconst (v := (1 : Int32)) hx hb dX4_canBeReason_19 (by decide) ?_
      refine lv_goto (tgt := 24) hx hb dX4_canBeReason_20 (by decide) ?_
      exact gw_reti hx hb hr (nar_z (Or.inr rfl)) hlk V (Option.some.inj h) rfl dX4_canBeReason_24
