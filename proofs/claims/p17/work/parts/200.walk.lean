set_option maxHeartbeats 4000000 in
theorem mX4_isBelow {l : Launch} {D : va_G} {a : Nat → Nat} {cA : ClassId} {sz : Nat} {u : g_S} {p0 : Int32} {p1 : Int32} {rv : Int32} (h : fcJ_isBelow p0 p1 = some rv) : gw_Mi D vwCl [(cA, .int)] (cjA a) gX (cjW a cA) l yX4_isBelow wxX4_isBelow rmX4_isBelow sz u [.int p0, .int p1] rv u := by
  refine gw_Mof (Qc := fun z => va_Qi (gw_Pi rv u) (gw_W D vwCl (cjW a cA)) (rg (cjA a) z)) (cc := cX4_isBelow) (maxL := 2) (ret := (some .boolean)) (by decide) rfl ?_
  intro p e s m below meth c B C V
  obtain ⟨hx, hb, hml, hown, hts, hr, hlk⟩ := id B
  have hl := lv_entry ([.int p0, .int p1]) (n := 2) (Nat.le_of_ble_eq_true rfl)
  rw [lg_entry_eq]
  generalize (lg_sl ([.int p0, .int p1]) ++ List.replicate (2 - (lg_sl ([.int p0, .int p1])).length) Slot.unset).toArray = ls at hl ⊢
  have hl : lv_has ls 2 [(0, .int p0), (1, .int p1)] := hl
  unfold fcJ_isBelow at h
  refine lv_iload_n hx hb dX4_isBelow_0 rfl (lv_at hl 0 rfl) ?_
  refine lv_if_lt (tgt := 13) hx hb dX4_isBelow_1 (by decide) (fun c1 => ?_) (fun c1 => ?_)
  · have h := if_t c1 h
    refine lv_iconst (v := (0 : Int32)) hx hb dX4_isBelow_13 (by decide) ?_
    exact gw_reti hx hb hr (nar_z (Or.inl rfl)) hlk V (Option.some.inj h) rfl dX4_isBelow_14
  · have h := if_f c1 h
    refine lv_iload_n hx hb dX4_isBelow_4 rfl (lv_at hl 0 rfl) ?_
    refine lv_iload_n hx hb dX4_isBelow_5 rfl (lv_at hl 1 rfl) ?_
    refine lv_icmp_ge (tgt := 13) hx hb dX4_isBelow_6 (by decide) (fun c2 => ?_) (fun c2 => ?_)
    · have h := if_t c2 h
      refine lv_iconst (v := (0 : Int32)) hx hb dX4_isBelow_13 (by decide) ?_
      exact gw_reti hx hb hr (nar_z (Or.inl rfl)) hlk V (Option.some.inj h) rfl dX4_isBelow_14
    · have h := if_f c2 h
      refine lv_iconst (v := (1 : Int32)) hx hb dX4_isBelow_9 (by decide) ?_
      refine lv_goto (tgt := 14) hx hb dX4_isBelow_10 (by decide) ?_
      exact gw_reti hx hb hr (nar_z (Or.inr rfl)) hlk V (Option.some.inj h) rfl dX4_isBelow_14
set_option maxHeartbeats 4000000 in
theorem mX4_needKnown {l : Launch} (hl9 : l.stackTraces = false) {D : va_G} {a : Nat → Nat} {cA : ClassId} {sz : Nat} {u : g_S} {p0 : Int32} {rv : Nat} (h : fcJ_needKnown p0 = some rv) : gx_Mv D vwCl [(cA, .int)] (cjA a) gX (cjW a cA) l yX4_needKnown wxX4_needKnown (rmX4_needKnown rv) (gk rv) (6 * gk rv) sz u [.int p0] rv u := by
  refine gx_Mof (Qc := fun z => va_Qv (gx_Pv rv u) (gw_W D vwCl (cjW a cA)) (rg (cjA a) z)) (XC := fun z => vx_X (gx_Px rv u) (gx_W D vwCl (cjW a cA) rv) (rg (cjA a) z)) (cc := cX4_needKnown) (maxL := 1) (ret := none) (by decide) rfl ?_
  intro p e s m below meth c B htab C V
  obtain ⟨hx, hb, hml, hown, hts, hr, hlk⟩ := id B
  have hl := lv_entry ([.int p0]) (n := 1) (Nat.le_of_ble_eq_true rfl)
  rw [lg_entry_eq]
  generalize (lg_sl ([.int p0]) ++ List.replicate (1 - (lg_sl ([.int p0])).length) Slot.unset).toArray = ls at hl ⊢
  have hl : lv_has ls 1 [(0, .int p0)] := hl
  unfold fcJ_needKnown at h
  refine lv_iload_n hx hb dX4_needKnown_0 rfl (lv_at hl 0 rfl) ?_
  refine lv_if_ne (tgt := 14) hx hb dX4_needKnown_1 (by decide) (fun c1 => ?_) (fun c1 => ?_)
  · have h := if_t c1 h
    exact gx_retv hx hb hr hlk V (Option.some.inj h).symm rfl (Nat.zero_le _) (Nat.zero_le _) dX4_needKnown_14
  · have h := if_nn c1 h
    exact gx_thr (names := gEs) hx hb hl9 hown hts (by decide +kernel) (by decide +kernel) kt_184 kt_11 tA_1 tB_1 (gX_b C.2.2) tG_1 (gX_s1 C.2.2).choose_spec (gX_u C.2.2) (gX_v C.2.2) V htab hl.1 hml hlk (by rw [← (Option.some.inj h)]; rfl) (by rw [← (Option.some.inj h)]; decide) rfl dX4_needKnown_4 dX4_needKnown_7 dX4_needKnown_8 dX4_needKnown_10 dX4_needKnown_13 (Nat.le_of_ble_eq_true rfl) (Nat.le_of_ble_eq_true rfl) (gk1 (by rw [← (Option.some.inj h)]; decide : ¬ rv = 0)).1 (gk1 (by rw [← (Option.some.inj h)]; decide : ¬ rv = 0)).2 (gk1 (by rw [← (Option.some.inj h)]; decide : ¬ rv = 0)).1 (gk1 (by rw [← (Option.some.inj h)]; decide : ¬ rv = 0)).2
set_option maxHeartbeats 4000000 in
theorem mX4_needRange {l : Launch} (hl9 : l.stackTraces = false) {D : va_G} {a : Nat → Nat} {cA : ClassId} {sz : Nat} {u : g_S} {p0 : Int32} {rv : Nat} (h : fcJ_needRange p0 = some rv) : gx_Mv D vwCl [(cA, .int)] (cjA a) gX (cjW a cA) l yX4_needRange wxX4_needRange (rmX4_needRange rv) (gk rv) (6 * gk rv) sz u [.int p0] rv u := by
  refine gx_Mof (Qc := fun z => va_Qv (gx_Pv rv u) (gw_W D vwCl (cjW a cA)) (rg (cjA a) z)) (XC := fun z => vx_X (gx_Px rv u) (gx_W D vwCl (cjW a cA) rv) (rg (cjA a) z)) (cc := cX4_needRange) (maxL := 1) (ret := none) (by decide) rfl ?_
  intro p e s m below meth c B htab C V
  obtain ⟨hx, hb, hml, hown, hts, hr, hlk⟩ := id B
  have hl := lv_entry ([.int p0]) (n := 1) (Nat.le_of_ble_eq_true rfl)
  rw [lg_entry_eq]
  generalize (lg_sl ([.int p0]) ++ List.replicate (1 - (lg_sl ([.int p0])).length) Slot.unset).toArray = ls at hl ⊢
  have hl : lv_has ls 1 [(0, .int p0)] := hl
  unfold fcJ_needRange at h
  refine lv_iload_n hx hb dX4_needRange_0 rfl (lv_at hl 0 rfl) ?_
  refine lv_if_ne (tgt := 14) hx hb dX4_needRange_1 (by decide) (fun c1 => ?_) (fun c1 => ?_)
  · have h := if_t c1 h
    exact gx_retv hx hb hr hlk V (Option.some.inj h).symm rfl (Nat.zero_le _) (Nat.zero_le _) dX4_needRange_14
  · have h := if_nn c1 h
    exact gx_thr (names := gEs) hx hb hl9 hown hts (by decide +kernel) (by decide +kernel) kt_257 kt_12 tA_2 tB_2 (gX_b C.2.2) tG_2 (gX_s2 C.2.2).choose_spec (gX_u C.2.2) (gX_v C.2.2) V htab hl.1 hml hlk (by rw [← (Option.some.inj h)]; rfl) (by rw [← (Option.some.inj h)]; decide) rfl dX4_needRange_4 dX4_needRange_7 dX4_needRange_8 dX4_needRange_10 dX4_needRange_13 (Nat.le_of_ble_eq_true rfl) (Nat.le_of_ble_eq_true rfl) (gk1 (by rw [← (Option.some.inj h)]; decide : ¬ rv = 0)).1 (gk1 (by rw [← (Option.some.inj h)]; decide : ¬ rv = 0)).2 (gk1 (by rw [← (Option.some.inj h)]; decide : ¬ rv = 0)).1 (gk1 (by rw [← (Option.some.inj h)]; decide : ¬ rv = 0)).2
set_option maxHeartbeats 4000000 in
theorem LX4_rule_56 {p : Program} {l : Launch} {e : Env} {s : State} {m : MethodId} {below : List Frame} {meth : Method} {c : Code} {args : Array Value} {D : va_G} {a : Nat → Nat} {cA : ClassId} (hl9 : l.stackTraces = false) (B : gw_B p s m args meth c cX4_rule 6 none RX4 gT) (htab : ∀ x ∈ c.exceptionTable.toList, False) (C : gw_C D vwCl [(cA, .int)] (cjA a) gX s) {rv : Nat × g_S} : ∀ (x1 : Int32) (x2 : Int32) (x3 : Int32) (x4 : Int32) (x5 : Int32) (y0 : Int32) (u : g_S) (H : Heap) (locs : List Loc) (ls : Array Slot), gw_V D vwCl (cjA a) (cjW a cA) s u H locs → lv_has ls 6 [(0, .ref (a 0)), (1, .int x1), (2, .int x2), (3, .int x3), (4, .int x4), (5, .int x5)] → fcJ_rule_56 u x1 x2 x3 x4 x5 y0 = some rv → W p l e (rmX4_rule rv.1) s m args below meth c H locs 0 0 (gx_Ev D vwCl (cjA a) (cjW a cA) below args s (gk rv.1) (6 * gk rv.1) rv.1 rv.2) (F0 m 56 ls [.int y0]) := by
  obtain ⟨hx, hb, hml, hown, hts, hr, hlk⟩ := id B
  intro x1 x2 x3 x4 x5 y0 u H locs ls V hl h
  unfold fcJ_rule_56 at h
  obtain ⟨v1, hv1, h⟩ := bi_e h
  refine gy_kv V (vx_runS (As := [.int y0]) (rest := []) ⟨hx, hb, hml, hown, hts⟩ (mX4_needRange hl9 (D := D) (a := a) (cA := cA) (u := u) hv1) (cwS 1 hts gcjX4_45 rfl rfl rfl (by decide +kernel) ⟨Nat.le_of_ble_eq_true rfl, Nat.le_of_ble_eq_true rfl⟩) (gw_preS gX_ok C V [.int y0]) rfl rfl hl.1 rfl (lv_room (Nat.le_of_ble_eq_true rfl)) dX4_rule_56 (gkr (gk_le (fun q => in2a (if_f q h))))) (fun k0 H locs ce qe V hat => ?_) (fun k0 H locs V => ?_)
  · have h := if_f k0 h
    exact gx_out htab hlk V hat k0 (in2a h) (in2b h) (gk1 (fun q => k0 ((in2a h).trans q))).1 (gk1 (fun q => k0 ((in2a h).trans q))).2
  have h := if_t k0 h
  refine lv_aload_n hx hb dX4_rule_59 rfl (lv_at hl 0 rfl) ?_
  refine va_get (C := RX4) (T := TX4) (N := 4) (ci := 4) hx hb hts igX4 hown C.1 V.1 0 rfl rfl 0 (by decide) (hts _ kt_156) (fun _ h => h) rfl dX4_rule_60 ?_
  refine va_get (C := RX3) (T := TX3) (N := 5) (ci := 3) hx hb hts igX3 hown C.1 V.1 1 rfl rfl 0 (by decide) (hts _ kt_35) (fun _ h => h) rfl dX4_rule_63 ?_
  refine lv_iload_n hx hb dX4_rule_66 rfl (lv_at hl 1 rfl) ?_
  refine lv_iload_n hx hb dX4_rule_67 rfl (lv_at hl 2 rfl) ?_
  obtain ⟨i2, h⟩ := ck_e h
  obtain ⟨u3, eu3, h⟩ := gl_e h
  refine gw_iast (u' := u3) hx hb (cjW_as a cA) C V 5 0 rfl rfl i2 (cjS_0 _ _ _ _ _ _ eu3) dX4_rule_68 (fun H locs V => ?_)
  refine lv_aload_n hx hb dX4_rule_69 rfl (lv_at hl 0 rfl) ?_
  refine va_get (C := RX4) (T := TX4) (N := 4) (ci := 4) hx hb hts igX4 hown C.1 V.1 0 rfl rfl 0 (by decide) (hts _ kt_156) (fun _ h => h) rfl dX4_rule_70 ?_
  refine va_get (C := RX3) (T := TX3) (N := 5) (ci := 3) hx hb hts igX3 hown C.1 V.1 1 rfl rfl 1 (by decide) (hts _ kt_37) (fun _ h => h) rfl dX4_rule_73 ?_
  refine lv_iload_n hx hb dX4_rule_76 rfl (lv_at hl 1 rfl) ?_
  refine lv_iload_n hx hb dX4_rule_77 rfl (lv_at hl 3 rfl) ?_
  obtain ⟨i4, h⟩ := ck_e h
  obtain ⟨u5, eu5, h⟩ := gl_e h
  refine gw_iast (u' := u5) hx hb (cjW_as a cA) C V 6 0 rfl rfl i4 (cjS_1 _ _ _ _ _ _ eu5) dX4_rule_78 (fun H locs V => ?_)
  refine lv_aload_n hx hb dX4_rule_79 rfl (lv_at hl 0 rfl) ?_
  refine va_get (C := RX4) (T := TX4) (N := 4) (ci := 4) hx hb hts igX4 hown C.1 V.1 0 rfl rfl 0 (by decide) (hts _ kt_156) (fun _ h => h) rfl dX4_rule_80 ?_
  refine va_get (C := RX3) (T := TX3) (N := 5) (ci := 3) hx hb hts igX3 hown C.1 V.1 1 rfl rfl 2 (by decide) (hts _ kt_39) (fun _ h => h) rfl dX4_rule_83 ?_
  refine lv_iload_n hx hb dX4_rule_86 rfl (lv_at hl 1 rfl) ?_
  refine lv_iload hx hb dX4_rule_87 (lv_at hl 4 rfl) ?_
  obtain ⟨i6, h⟩ := ck_e h
  obtain ⟨u7, eu7, h⟩ := gl_e h
  refine gw_iast (u' := u7) hx hb (cjW_as a cA) C V 7 0 rfl rfl i6 (cjS_2 _ _ _ _ _ _ eu7) dX4_rule_89 (fun H locs V => ?_)
  refine lv_aload_n hx hb dX4_rule_90 rfl (lv_at hl 0 rfl) ?_
  refine va_get (C := RX4) (T := TX4) (N := 4) (ci := 4) hx hb hts igX4 hown C.1 V.1 0 rfl rfl 0 (by decide) (hts _ kt_156) (fun _ h => h) rfl dX4_rule_91 ?_
  refine va_get (C := RX3) (T := TX3) (N := 5) (ci := 3) hx hb hts igX3 hown C.1 V.1 1 rfl rfl 3 (by decide) (hts _ kt_41) (fun _ h => h) rfl dX4_rule_94 ?_
  refine lv_iload_n hx hb dX4_rule_97 rfl (lv_at hl 1 rfl) ?_
  refine lv_iload hx hb dX4_rule_98 (lv_at hl 5 rfl) ?_
  obtain ⟨i8, h⟩ := ck_e h
  obtain ⟨u9, eu9, h⟩ := gl_e h
  refine gw_iast (u' := u9) hx hb (cjW_as a cA) C V 8 0 rfl rfl i8 (cjS_3 _ _ _ _ _ _ eu9) dX4_rule_100 (fun H locs V => ?_)
  exact gx_retv hx hb hr hlk V (in2a h).symm (in2b h) (Nat.zero_le _) (Nat.zero_le _) dX4_rule_101
set_option maxHeartbeats 4000000 in
theorem mX4_rule {l : Launch} (hl9 : l.stackTraces = false) {D : va_G} {a : Nat → Nat} {cA : ClassId} {sz : Nat} {u : g_S} {p1 : Int32} {p2 : Int32} {p3 : Int32} {p4 : Int32} {p5 : Int32} {rv : Nat × g_S} (h : fcJ_rule u p1 p2 p3 p4 p5 = some rv) : gx_Mv D vwCl [(cA, .int)] (cjA a) gX (cjW a cA) l yX4_rule wxX4_rule (rmX4_rule rv.1) (gk rv.1) (6 * gk rv.1) sz u [.ref (a 0), .int p1, .int p2, .int p3, .int p4, .int p5] rv.1 rv.2 := by
  refine gx_Mof (Qc := fun z => va_Qv (gx_Pv rv.1 rv.2) (gw_W D vwCl (cjW a cA)) (rg (cjA a) z)) (XC := fun z => vx_X (gx_Px rv.1 rv.2) (gx_W D vwCl (cjW a cA) rv.1) (rg (cjA a) z)) (cc := cX4_rule) (maxL := 6) (ret := none) (by decide) rfl ?_
  intro p e s m below meth c B htab C V
  obtain ⟨hx, hb, hml, hown, hts, hr, hlk⟩ := id B
  have hl := lv_entry ([.ref (a 0), .int p1, .int p2, .int p3, .int p4, .int p5]) (n := 6) (Nat.le_of_ble_eq_true rfl)
  rw [lg_entry_eq]
  generalize (lg_sl ([.ref (a 0), .int p1, .int p2, .int p3, .int p4, .int p5]) ++ List.replicate (6 - (lg_sl ([.ref (a 0), .int p1, .int p2, .int p3, .int p4, .int p5])).length) Slot.unset).toArray = ls at hl ⊢
  have hl : lv_has ls 6 [(0, .ref (a 0)), (1, .int p1), (2, .int p2), (3, .int p3), (4, .int p4), (5, .int p5)] := hl
  unfold fcJ_rule at h
  refine lv_iload_n hx hb dX4_rule_0 rfl (lv_at hl 1 rfl) ?_
  refine lv_bipush (v := (8 : Int32)) hx hb dX4_rule_1 (by decide) ?_
  obtain ⟨v1, hv1, h⟩ := bi_e h
  refine gw_ki V (va_runS (As := [.int p1, .int (8 : Int32)]) (rest := []) ⟨hx, hb, hml, hown, hts⟩ (mX4_isBelow (D := D) (a := a) (cA := cA) (u := u) hv1) (cwS 2 hts gcjX4_37 rfl rfl rfl (by decide +kernel) ⟨Nat.le_of_ble_eq_true rfl, Nat.le_of_ble_eq_true rfl⟩) (gw_preS gX_ok C V [.int p1, .int (8 : Int32)]) rfl rfl hl.1 rfl (lv_room (Nat.le_of_ble_eq_true rfl)) dX4_rule_3 ⟨Nat.zero_le _, Nat.zero_le _⟩) (fun H locs V => ?_)
  obtain ⟨v2, hv2, h⟩ := bi_e h
  refine gy_kv V (vx_runS (As := [.int v1]) (rest := []) ⟨hx, hb, hml, hown, hts⟩ (mX4_needKnown hl9 (D := D) (a := a) (cA := cA) (u := u) hv2) (cwS 1 hts gcjX4_41 rfl rfl rfl (by decide +kernel) ⟨Nat.le_of_ble_eq_true rfl, Nat.le_of_ble_eq_true rfl⟩) (gw_preS gX_ok C V [.int v1]) rfl rfl hl.1 rfl (lv_room (Nat.le_of_ble_eq_true rfl)) dX4_rule_6 (gkr (gk_le (fun q => in2a (if_f q h))))) (fun k0 H locs ce qe V hat => ?_) (fun k0 H locs V => ?_)
  · have h := if_f k0 h
    exact gx_out htab hlk V hat k0 (in2a h) (in2b h) (gk1 (fun q => k0 ((in2a h).trans q))).1 (gk1 (fun q => k0 ((in2a h).trans q))).2
  have h := if_t k0 h
  refine lv_iload_n hx hb dX4_rule_9 rfl (lv_at hl 2 rfl) ?_
  refine lv_sipush (v := (20001 : Int32)) hx hb dX4_rule_10 (by decide) ?_
  obtain ⟨v3, hv3, h⟩ := bi_e h
  refine gw_ki V (va_runS (As := [.int p2, .int (20001 : Int32)]) (rest := []) ⟨hx, hb, hml, hown, hts⟩ (mX4_isBelow (D := D) (a := a) (cA := cA) (u := u) hv3) (cwS 2 hts gcjX4_37 rfl rfl rfl (by decide +kernel) ⟨Nat.le_of_ble_eq_true rfl, Nat.le_of_ble_eq_true rfl⟩) (gw_preS gX_ok C V [.int p2, .int (20001 : Int32)]) rfl rfl hl.1 rfl (lv_room (Nat.le_of_ble_eq_true rfl)) dX4_rule_13 ⟨Nat.zero_le _, Nat.zero_le _⟩) (fun H locs V => ?_)
  obtain ⟨v4, hv4, h⟩ := bi_e h
  refine gy_kv V (vx_runS (As := [.int v3]) (rest := []) ⟨hx, hb, hml, hown, hts⟩ (mX4_needRange hl9 (D := D) (a := a) (cA := cA) (u := u) hv4) (cwS 1 hts gcjX4_45 rfl rfl rfl (by decide +kernel) ⟨Nat.le_of_ble_eq_true rfl, Nat.le_of_ble_eq_true rfl⟩) (gw_preS gX_ok C V [.int v3]) rfl rfl hl.1 rfl (lv_room (Nat.le_of_ble_eq_true rfl)) dX4_rule_16 (gkr (gk_le (fun q => in2a (if_f q h))))) (fun k0 H locs ce qe V hat => ?_) (fun k0 H locs V => ?_)
  · have h := if_f k0 h
    exact gx_out htab hlk V hat k0 (in2a h) (in2b h) (gk1 (fun q => k0 ((in2a h).trans q))).1 (gk1 (fun q => k0 ((in2a h).trans q))).2
  have h := if_t k0 h
  refine lv_iload_n hx hb dX4_rule_19 rfl (lv_at hl 3 rfl) ?_
  refine lv_ldc (v := (100001 : Int32)) hx hb hown (hts _ kt_273) dX4_rule_20 ?_
  obtain ⟨v5, hv5, h⟩ := bi_e h
  refine gw_ki V (va_runS (As := [.int p3, .int (100001 : Int32)]) (rest := []) ⟨hx, hb, hml, hown, hts⟩ (mX4_isBelow (D := D) (a := a) (cA := cA) (u := u) hv5) (cwS 2 hts gcjX4_37 rfl rfl rfl (by decide +kernel) ⟨Nat.le_of_ble_eq_true rfl, Nat.le_of_ble_eq_true rfl⟩) (gw_preS gX_ok C V [.int p3, .int (100001 : Int32)]) rfl rfl hl.1 rfl (lv_room (Nat.le_of_ble_eq_true rfl)) dX4_rule_22 ⟨Nat.zero_le _, Nat.zero_le _⟩) (fun H locs V => ?_)
  obtain ⟨v6, hv6, h⟩ := bi_e h
  refine gy_kv V (vx_runS (As := [.int v5]) (rest := []) ⟨hx, hb, hml, hown, hts⟩ (mX4_needRange hl9 (D := D) (a := a) (cA := cA) (u := u) hv6) (cwS 1 hts gcjX4_45 rfl rfl rfl (by decide +kernel) ⟨Nat.le_of_ble_eq_true rfl, Nat.le_of_ble_eq_true rfl⟩) (gw_preS gX_ok C V [.int v5]) rfl rfl hl.1 rfl (lv_room (Nat.le_of_ble_eq_true rfl)) dX4_rule_25 (gkr (gk_le (fun q => in2a (if_f q h))))) (fun k0 H locs ce qe V hat => ?_) (fun k0 H locs V => ?_)
  · have h := if_f k0 h
    exact gx_out htab hlk V hat k0 (in2a h) (in2b h) (gk1 (fun q => k0 ((in2a h).trans q))).1 (gk1 (fun q => k0 ((in2a h).trans q))).2
  have h := if_t k0 h
  refine lv_iload hx hb dX4_rule_28 (lv_at hl 4 rfl) ?_
  refine lv_bipush (v := (101 : Int32)) hx hb dX4_rule_30 (by decide) ?_
  obtain ⟨v7, hv7, h⟩ := bi_e h
  refine gw_ki V (va_runS (As := [.int p4, .int (101 : Int32)]) (rest := []) ⟨hx, hb, hml, hown, hts⟩ (mX4_isBelow (D := D) (a := a) (cA := cA) (u := u) hv7) (cwS 2 hts gcjX4_37 rfl rfl rfl (by decide +kernel) ⟨Nat.le_of_ble_eq_true rfl, Nat.le_of_ble_eq_true rfl⟩) (gw_preS gX_ok C V [.int p4, .int (101 : Int32)]) rfl rfl hl.1 rfl (lv_room (Nat.le_of_ble_eq_true rfl)) dX4_rule_32 ⟨Nat.zero_le _, Nat.zero_le _⟩) (fun H locs V => ?_)
  obtain ⟨v8, hv8, h⟩ := bi_e h
  refine gy_kv V (vx_runS (As := [.int v7]) (rest := []) ⟨hx, hb, hml, hown, hts⟩ (mX4_needRange hl9 (D := D) (a := a) (cA := cA) (u := u) hv8) (cwS 1 hts gcjX4_45 rfl rfl rfl (by decide +kernel) ⟨Nat.le_of_ble_eq_true rfl, Nat.le_of_ble_eq_true rfl⟩) (gw_preS gX_ok C V [.int v7]) rfl rfl hl.1 rfl (lv_room (Nat.le_of_ble_eq_true rfl)) dX4_rule_35 (gkr (gk_le (fun q => in2a (if_f q h))))) (fun k0 H locs ce qe V hat => ?_) (fun k0 H locs V => ?_)
  · have h := if_f k0 h
    exact gx_out htab hlk V hat k0 (in2a h) (in2b h) (gk1 (fun q => k0 ((in2a h).trans q))).1 (gk1 (fun q => k0 ((in2a h).trans q))).2
  have h := if_t k0 h
  refine lv_iload hx hb dX4_rule_38 (lv_at hl 5 rfl) ?_
  refine lv_iconst (v := (1 : Int32)) hx hb dX4_rule_40 (by decide) ?_
  refine lv_icmp_lt (tgt := 55) hx hb dX4_rule_41 (by decide) (fun c9 => ?_) (fun c9 => ?_)
  · have h := if_t c9 h
    refine lv_iconst (v := (0 : Int32)) hx hb dX4_rule_55 (by decide) ?_
    exact LX4_rule_56 hl9 B htab C p1 p2 p3 p4 p5 (0 : Int32) u _ _ _ V (lv_sub hl [0, 1, 2, 3, 4, 5] rfl) h
  · have h := if_f c9 h
    refine lv_iload hx hb dX4_rule_44 (lv_at hl 5 rfl) ?_
    refine lv_bipush (v := (100 : Int32)) hx hb dX4_rule_46 (by decide) ?_
    refine lv_icmp_gt (tgt := 55) hx hb dX4_rule_48 (by decide) (fun c10 => ?_) (fun c10 => ?_)
    · have h := if_t c10 h
      refine lv_iconst (v := (0 : Int32)) hx hb dX4_rule_55 (by decide) ?_
      exact LX4_rule_56 hl9 B htab C p1 p2 p3 p4 p5 (0 : Int32) u _ _ _ V (lv_sub hl [0, 1, 2, 3, 4, 5] rfl) h
    · have h := if_f c10 h
      refine lv_iconst (v := (1 : Int32)) hx hb dX4_rule_51 (by decide) ?_
      refine lv_goto (tgt := 56) hx hb dX4_rule_52 (by decide) ?_
      exact LX4_rule_56 hl9 B htab C p1 p2 p3 p4 p5 (1 : Int32) u _ _ _ V (lv_sub hl [0, 1, 2, 3, 4, 5] rfl) h
set_option maxHeartbeats 4000000 in
theorem LX4_weight_23 {p : Program} {l : Launch} {e : Env} {s : State} {m : MethodId} {below : List Frame} {meth : Method} {c : Code} {args : Array Value} {D : va_G} {a : Nat → Nat} {cA : ClassId} (hl9 : l.stackTraces = false) (B : gw_B p s m args meth c cX4_weight 4 none RX4 gT) (htab : ∀ x ∈ c.exceptionTable.toList, False) (C : gw_C D vwCl [(cA, .int)] (cjA a) gX s) {rv : Nat × g_S} : ∀ (x1 : Int32) (x2 : Int32) (x3 : Int32) (y0 : Int32) (u : g_S) (H : Heap) (locs : List Loc) (ls : Array Slot), gw_V D vwCl (cjA a) (cjW a cA) s u H locs → lv_has ls 4 [(0, .ref (a 0)), (1, .int x1), (2, .int x2), (3, .int x3)] → fcJ_weight_23 u x1 x2 x3 y0 = some rv → W p l e (rmX4_weight rv.1) s m args below meth c H locs 0 0 (gx_Ev D vwCl (cjA a) (cjW a cA) below args s (gk rv.1) (6 * gk rv.1) rv.1 rv.2) (F0 m 23 ls [.int y0]) := by
  obtain ⟨hx, hb, hml, hown, hts, hr, hlk⟩ := id B
  intro x1 x2 x3 y0 u H locs ls V hl h
  unfold fcJ_weight_23 at h
  obtain ⟨v1, hv1, h⟩ := bi_e h
  refine gy_kv V (vx_runS (As := [.int y0]) (rest := []) ⟨hx, hb, hml, hown, hts⟩ (mX4_needKnown hl9 (D := D) (a := a) (cA := cA) (u := u) hv1) (cwS 1 hts gcjX4_41 rfl rfl rfl (by decide +kernel) ⟨Nat.le_of_ble_eq_true rfl, Nat.le_of_ble_eq_true rfl⟩) (gw_preS gX_ok C V [.int y0]) rfl rfl hl.1 rfl (lv_room (Nat.le_of_ble_eq_true rfl)) dX4_weight_23 (gkr (gk_le (fun q => in2a (if_f q h))))) (fun k0 H locs ce qe V hat => ?_) (fun k0 H locs V => ?_)
  · have h := if_f k0 h
    exact gx_out htab hlk V hat k0 (in2a h) (in2b h) (gk1 (fun q => k0 ((in2a h).trans q))).1 (gk1 (fun q => k0 ((in2a h).trans q))).2
  have h := if_t k0 h
  refine lv_iload_n hx hb dX4_weight_26 rfl (lv_at hl 3 rfl) ?_
  refine lv_bipush (v := (101 : Int32)) hx hb dX4_weight_27 (by decide) ?_
  obtain ⟨v2, hv2, h⟩ := bi_e h
  refine gw_ki V (va_runS (As := [.int x3, .int (101 : Int32)]) (rest := []) ⟨hx, hb, hml, hown, hts⟩ (mX4_isBelow (D := D) (a := a) (cA := cA) (u := u) hv2) (cwS 2 hts gcjX4_37 rfl rfl rfl (by decide +kernel) ⟨Nat.le_of_ble_eq_true rfl, Nat.le_of_ble_eq_true rfl⟩) (gw_preS gX_ok C V [.int x3, .int (101 : Int32)]) rfl rfl hl.1 rfl (lv_room (Nat.le_of_ble_eq_true rfl)) dX4_weight_29 ⟨Nat.zero_le _, Nat.zero_le _⟩) (fun H locs V => ?_)
  obtain ⟨v3, hv3, h⟩ := bi_e h
  refine gy_kv V (vx_runS (As := [.int v2]) (rest := []) ⟨hx, hb, hml, hown, hts⟩ (mX4_needRange hl9 (D := D) (a := a) (cA := cA) (u := u) hv3) (cwS 1 hts gcjX4_45 rfl rfl rfl (by decide +kernel) ⟨Nat.le_of_ble_eq_true rfl, Nat.le_of_ble_eq_true rfl⟩) (gw_preS gX_ok C V [.int v2]) rfl rfl hl.1 rfl (lv_room (Nat.le_of_ble_eq_true rfl)) dX4_weight_32 (gkr (gk_le (fun q => in2a (if_f q h))))) (fun k0 H locs ce qe V hat => ?_) (fun k0 H locs V => ?_)
  · have h := if_f k0 h
    exact gx_out htab hlk V hat k0 (in2a h) (in2b h) (gk1 (fun q => k0 ((in2a h).trans q))).1 (gk1 (fun q => k0 ((in2a h).trans q))).2
  have h := if_t k0 h
  refine lv_aload_n hx hb dX4_weight_35 rfl (lv_at hl 0 rfl) ?_
  refine va_get (C := RX4) (T := TX4) (N := 4) (ci := 4) hx hb hts igX4 hown C.1 V.1 0 rfl rfl 0 (by decide) (hts _ kt_156) (fun _ h => h) rfl dX4_weight_36 ?_
  refine va_get (C := RX3) (T := TX3) (N := 5) (ci := 3) hx hb hts igX3 hown C.1 V.1 1 rfl rfl 4 (by decide) (hts _ kt_43) (fun _ h => h) rfl dX4_weight_39 ?_
  refine lv_iload_n hx hb dX4_weight_42 rfl (lv_at hl 1 rfl) ?_
  refine lv_bipush (v := (32 : Int32)) hx hb dX4_weight_43 (by decide) ?_
  refine lv_imul hx hb dX4_weight_45 ?_
  refine lv_iload_n hx hb dX4_weight_46 rfl (lv_at hl 2 rfl) ?_
  refine lv_iadd hx hb dX4_weight_47 ?_
  refine lv_iload_n hx hb dX4_weight_48 rfl (lv_at hl 3 rfl) ?_
  obtain ⟨i4, h⟩ := ck_e h
  obtain ⟨u5, eu5, h⟩ := gl_e h
  refine gw_iast (u' := u5) hx hb (cjW_as a cA) C V 9 0 rfl rfl i4 (cjS_4 _ _ _ _ _ _ eu5) dX4_weight_49 (fun H locs V => ?_)
  exact gx_retv hx hb hr hlk V (in2a h).symm (in2b h) (Nat.zero_le _) (Nat.zero_le _) dX4_weight_50
set_option maxHeartbeats 4000000 in
theorem mX4_weight {l : Launch} (hl9 : l.stackTraces = false) {D : va_G} {a : Nat → Nat} {cA : ClassId} {sz : Nat} {u : g_S} {p1 : Int32} {p2 : Int32} {p3 : Int32} {rv : Nat × g_S} (h : fcJ_weight u p1 p2 p3 = some rv) : gx_Mv D vwCl [(cA, .int)] (cjA a) gX (cjW a cA) l yX4_weight wxX4_weight (rmX4_weight rv.1) (gk rv.1) (6 * gk rv.1) sz u [.ref (a 0), .int p1, .int p2, .int p3] rv.1 rv.2 := by
  refine gx_Mof (Qc := fun z => va_Qv (gx_Pv rv.1 rv.2) (gw_W D vwCl (cjW a cA)) (rg (cjA a) z)) (XC := fun z => vx_X (gx_Px rv.1 rv.2) (gx_W D vwCl (cjW a cA) rv.1) (rg (cjA a) z)) (cc := cX4_weight) (maxL := 4) (ret := none) (by decide) rfl ?_
  intro p e s m below meth c B htab C V
  obtain ⟨hx, hb, hml, hown, hts, hr, hlk⟩ := id B
  have hl := lv_entry ([.ref (a 0), .int p1, .int p2, .int p3]) (n := 4) (Nat.le_of_ble_eq_true rfl)
  rw [lg_entry_eq]
  generalize (lg_sl ([.ref (a 0), .int p1, .int p2, .int p3]) ++ List.replicate (4 - (lg_sl ([.ref (a 0), .int p1, .int p2, .int p3])).length) Slot.unset).toArray = ls at hl ⊢
  have hl : lv_has ls 4 [(0, .ref (a 0)), (1, .int p1), (2, .int p2), (3, .int p3)] := hl
  unfold fcJ_weight at h
  refine lv_iload_n hx hb dX4_weight_0 rfl (lv_at hl 1 rfl) ?_
  refine lv_bipush (v := (8 : Int32)) hx hb dX4_weight_1 (by decide) ?_
  obtain ⟨v1, hv1, h⟩ := bi_e h
  refine gw_ki V (va_runS (As := [.int p1, .int (8 : Int32)]) (rest := []) ⟨hx, hb, hml, hown, hts⟩ (mX4_isBelow (D := D) (a := a) (cA := cA) (u := u) hv1) (cwS 2 hts gcjX4_37 rfl rfl rfl (by decide +kernel) ⟨Nat.le_of_ble_eq_true rfl, Nat.le_of_ble_eq_true rfl⟩) (gw_preS gX_ok C V [.int p1, .int (8 : Int32)]) rfl rfl hl.1 rfl (lv_room (Nat.le_of_ble_eq_true rfl)) dX4_weight_3 ⟨Nat.zero_le _, Nat.zero_le _⟩) (fun H locs V => ?_)
  refine lv_if_eq (tgt := 22) hx hb dX4_weight_6 (by decide) (fun c2 => ?_) (fun c2 => ?_)
  · have h := if_t c2 h
    refine lv_iconst (v := (0 : Int32)) hx hb dX4_weight_22 (by decide) ?_
    exact LX4_weight_23 hl9 B htab C p1 p2 p3 (0 : Int32) u _ _ _ V (lv_sub hl [0, 1, 2, 3] rfl) h
  · have h := if_f c2 h
    refine lv_iload_n hx hb dX4_weight_9 rfl (lv_at hl 2 rfl) ?_
    refine lv_bipush (v := (32 : Int32)) hx hb dX4_weight_10 (by decide) ?_
    obtain ⟨v3, hv3, h⟩ := bi_e h
    refine gw_ki V (va_runS (As := [.int p2, .int (32 : Int32)]) (rest := []) ⟨hx, hb, hml, hown, hts⟩ (mX4_isBelow (D := D) (a := a) (cA := cA) (u := u) hv3) (cwS 2 hts gcjX4_37 rfl rfl rfl (by decide +kernel) ⟨Nat.le_of_ble_eq_true rfl, Nat.le_of_ble_eq_true rfl⟩) (gw_preS gX_ok C V [.int p2, .int (32 : Int32)]) rfl rfl hl.1 rfl (lv_room (Nat.le_of_ble_eq_true rfl)) dX4_weight_12 ⟨Nat.zero_le _, Nat.zero_le _⟩) (fun H locs V => ?_)
    refine lv_if_eq (tgt := 22) hx hb dX4_weight_15 (by decide) (fun c4 => ?_) (fun c4 => ?_)
    · have h := if_t c4 h
      refine lv_iconst (v := (0 : Int32)) hx hb dX4_weight_22 (by decide) ?_
      exact LX4_weight_23 hl9 B htab C p1 p2 p3 (0 : Int32) u _ _ _ V (lv_sub hl [0, 1, 2, 3] rfl) h
    · have h := if_f c4 h
      refine lv_iconst (v := (1 : Int32)) hx hb dX4_weight_18 (by decide) ?_
      refine lv_goto (tgt := 23) hx hb dX4_weight_19 (by decide) ?_
      exact LX4_weight_23 hl9 B htab C p1 p2 p3 (1 : Int32) u _ _ _ V (lv_sub hl [0, 1, 2, 3] rfl) h
set_option maxHeartbeats 4000000 in
theorem mX4_needRoom {l : Launch} (hl9 : l.stackTraces = false) {D : va_G} {a : Nat → Nat} {cA : ClassId} {sz : Nat} {u : g_S} {p0 : Int32} {rv : Nat} (h : fcJ_needRoom p0 = some rv) : gx_Mv D vwCl [(cA, .int)] (cjA a) gX (cjW a cA) l yX4_needRoom wxX4_needRoom (rmX4_needRoom rv) (gk rv) (6 * gk rv) sz u [.int p0] rv u := by
  refine gx_Mof (Qc := fun z => va_Qv (gx_Pv rv u) (gw_W D vwCl (cjW a cA)) (rg (cjA a) z)) (XC := fun z => vx_X (gx_Px rv u) (gx_W D vwCl (cjW a cA) rv) (rg (cjA a) z)) (cc := cX4_needRoom) (maxL := 1) (ret := none) (by decide) rfl ?_
  intro p e s m below meth c B htab C V
  obtain ⟨hx, hb, hml, hown, hts, hr, hlk⟩ := id B
  have hl := lv_entry ([.int p0]) (n := 1) (Nat.le_of_ble_eq_true rfl)
  rw [lg_entry_eq]
  generalize (lg_sl ([.int p0]) ++ List.replicate (1 - (lg_sl ([.int p0])).length) Slot.unset).toArray = ls at hl ⊢
  have hl : lv_has ls 1 [(0, .int p0)] := hl
  unfold fcJ_needRoom at h
  refine lv_iload_n hx hb dX4_needRoom_0 rfl (lv_at hl 0 rfl) ?_
  refine lv_if_ne (tgt := 14) hx hb dX4_needRoom_1 (by decide) (fun c1 => ?_) (fun c1 => ?_)
  · have h := if_t c1 h
    exact gx_retv hx hb hr hlk V (Option.some.inj h).symm rfl (Nat.zero_le _) (Nat.zero_le _) dX4_needRoom_14
  · have h := if_nn c1 h
    exact gx_thr (names := gEs) hx hb hl9 hown hts (by decide +kernel) (by decide +kernel) kt_293 kt_13 tA_4 tB_4 (gX_b C.2.2) tG_4 (gX_s4 C.2.2).choose_spec (gX_u C.2.2) (gX_v C.2.2) V htab hl.1 hml hlk (by rw [← (Option.some.inj h)]; rfl) (by rw [← (Option.some.inj h)]; decide) rfl dX4_needRoom_4 dX4_needRoom_7 dX4_needRoom_8 dX4_needRoom_10 dX4_needRoom_13 (Nat.le_of_ble_eq_true rfl) (Nat.le_of_ble_eq_true rfl) (gk1 (by rw [← (Option.some.inj h)]; decide : ¬ rv = 0)).1 (gk1 (by rw [← (Option.some.inj h)]; decide : ¬ rv = 0)).2 (gk1 (by rw [← (Option.some.inj h)]; decide : ¬ rv = 0)).1 (gk1 (by rw [← (Option.some.inj h)]; decide : ¬ rv = 0)).2
set_option maxHeartbeats 4000000 in
theorem mX2_append {l : Launch} {D : va_G} {a : Nat → Nat} {cA : ClassId} {sz : Nat} {u : g_S} {p1 : Int32} {p2 : Int32} {rv : Int32 × g_S} (h : fcR_append u p1 p2 = some rv) : gw_Mi D vwCl [(cA, .int)] (cjA a) gX (cjW a cA) l yX2_append wxX2_append rmX2_append sz u [.ref (a 2), .int p1, .int p2] rv.1 rv.2 := by
  refine gw_Mof (Qc := fun z => va_Qi (gw_Pi rv.1 rv.2) (gw_W D vwCl (cjW a cA)) (rg (cjA a) z)) (cc := cX2_append) (maxL := 3) (ret := (some .int)) (by decide) rfl ?_
  intro p e s m below meth c B C V
  obtain ⟨hx, hb, hml, hown, hts, hr, hlk⟩ := id B
  have hl := lv_entry ([.ref (a 2), .int p1, .int p2]) (n := 3) (Nat.le_of_ble_eq_true rfl)
  rw [lg_entry_eq]
  generalize (lg_sl ([.ref (a 2), .int p1, .int p2]) ++ List.replicate (3 - (lg_sl ([.ref (a 2), .int p1, .int p2])).length) Slot.unset).toArray = ls at hl ⊢
  have hl : lv_has ls 3 [(0, .ref (a 2)), (1, .int p1), (2, .int p2)] := hl
  unfold fcR_append at h
  refine lv_aload_n hx hb dX2_append_0 rfl (lv_at hl 0 rfl) ?_
  refine va_get (C := RX2) (T := TX2) (N := 2) (ci := 2) hx hb hts igX2 hown C.1 V.1 2 rfl rfl 1 (by decide) (hts _ kt_64) (fun _ h => h) rfl dX2_append_1 ?_
  refine lv_iload_n hx hb dX2_append_4 rfl (lv_at hl 1 rfl) ?_
  refine lv_bipush (v := (8 : Int32)) hx hb dX2_append_5 (by decide) ?_
  refine lv_imul hx hb dX2_append_7 ?_
  refine lv_aload_n hx hb dX2_append_8 rfl (lv_at hl 0 rfl) ?_
  refine va_get (C := RX2) (T := TX2) (N := 2) (ci := 2) hx hb hts igX2 hown C.1 V.1 2 rfl rfl 0 (by decide) (hts _ kt_62) (fun _ h => h) rfl dX2_append_9 ?_
  refine lv_iload_n hx hb dX2_append_12 rfl (lv_at hl 1 rfl) ?_
  obtain ⟨i1, h⟩ := ck_e h
  refine va_iald hx hb C.1 V.1 10 0 rfl rfl i1 dX2_append_13 ?_
  refine lv_iadd hx hb dX2_append_14 ?_
  refine lv_iload_n hx hb dX2_append_15 rfl (lv_at hl 2 rfl) ?_
  obtain ⟨i2, h⟩ := ck_e h
  obtain ⟨u3, eu3, h⟩ := gl_e h
  refine gw_iast (u' := u3) hx hb (cjW_as a cA) C V 11 0 rfl rfl i2 (cjS_6 _ _ _ _ _ _ eu3) dX2_append_16 (fun H locs V => ?_)
  refine lv_aload_n hx hb dX2_append_17 rfl (lv_at hl 0 rfl) ?_
  refine va_get (C := RX2) (T := TX2) (N := 2) (ci := 2) hx hb hts igX2 hown C.1 V.1 2 rfl rfl 0 (by decide) (hts _ kt_62) (fun _ h => h) rfl dX2_append_18 ?_
  refine lv_iload_n hx hb dX2_append_21 rfl (lv_at hl 1 rfl) ?_
  refine lv_dup2_11 hx hb dX2_append_22 rfl rfl ?_
  obtain ⟨i4, h⟩ := ck_e h
  refine va_iald hx hb C.1 V.1 10 0 rfl rfl i4 dX2_append_23 ?_
  refine lv_iconst (v := (1 : Int32)) hx hb dX2_append_24 (by decide) ?_
  refine lv_iadd hx hb dX2_append_25 ?_
  obtain ⟨i5, h⟩ := ck_e h
  obtain ⟨u6, eu6, h⟩ := gl_e h
  refine gw_iast (u' := u6) hx hb (cjW_as a cA) C V 10 0 rfl rfl i5 (cjS_5 _ _ _ _ _ _ eu6) dX2_append_26 (fun H locs V => ?_)
  refine lv_aload_n hx hb dX2_append_27 rfl (lv_at hl 0 rfl) ?_
  refine va_get (C := RX2) (T := TX2) (N := 2) (ci := 2) hx hb hts igX2 hown C.1 V.1 2 rfl rfl 0 (by decide) (hts _ kt_62) (fun _ h => h) rfl dX2_append_28 ?_
  refine lv_iload_n hx hb dX2_append_31 rfl (lv_at hl 1 rfl) ?_
  obtain ⟨i7, h⟩ := ck_e h
  refine va_iald hx hb C.1 V.1 10 0 rfl rfl i7 dX2_append_32 ?_
  exact gw_reti hx hb hr rfl hlk V (in2a h) (in2b h) dX2_append_33
set_option maxHeartbeats 4000000 in
theorem LX4_point_37 {p : Program} {l : Launch} {e : Env} {s : State} {m : MethodId} {below : List Frame} {meth : Method} {c : Code} {args : Array Value} {D : va_G} {a : Nat → Nat} {cA : ClassId} (hl9 : l.stackTraces = false) (B : gw_B p s m args meth c cX4_point 3 (some .int) RX4 gT) (htab : ∀ x ∈ c.exceptionTable.toList, False) (C : gw_C D vwCl [(cA, .int)] (cjA a) gX s) {rv : Nat × Int32 × g_S} : ∀ (x1 : Int32) (x2 : Int32) (y0 : Int32) (u : g_S) (H : Heap) (locs : List Loc) (ls : Array Slot), gw_V D vwCl (cjA a) (cjW a cA) s u H locs → lv_has ls 3 [(0, .ref (a 0)), (1, .int x1), (2, .int x2)] → fcJ_point_37 u x1 x2 y0 = some rv → W p l e (rmX4_point rv.1) s m args below meth c H locs 0 0 (gx_Ei D vwCl (cjA a) (cjW a cA) below args s (gk rv.1) (6 * gk rv.1) rv.1 rv.2.1 rv.2.2) (F0 m 37 ls [.int y0]) := by
  obtain ⟨hx, hb, hml, hown, hts, hr, hlk⟩ := id B
  intro x1 x2 y0 u H locs ls V hl h
  unfold fcJ_point_37 at h
  obtain ⟨v1, hv1, h⟩ := bi_e h
  refine gy_kv V (vx_runS (As := [.int y0]) (rest := []) ⟨hx, hb, hml, hown, hts⟩ (mX4_needRoom hl9 (D := D) (a := a) (cA := cA) (u := u) hv1) (cwS 1 hts gcjX4_69 rfl rfl rfl (by decide +kernel) ⟨Nat.le_of_ble_eq_true rfl, Nat.le_of_ble_eq_true rfl⟩) (gw_preS gX_ok C V [.int y0]) rfl rfl hl.1 rfl (lv_room (Nat.le_of_ble_eq_true rfl)) dX4_point_37 (gkr (gk_le (fun q => in3a (if_f q h))))) (fun k0 H locs ce qe V hat => ?_) (fun k0 H locs V => ?_)
  · have h := if_f k0 h
    exact gx_out htab hlk V hat k0 (in3a h) (in3c h) (gk1 (fun q => k0 ((in3a h).trans q))).1 (gk1 (fun q => k0 ((in3a h).trans q))).2
  have h := if_t k0 h
  refine lv_aload_n hx hb dX4_point_40 rfl (lv_at hl 0 rfl) ?_
  refine va_get (C := RX4) (T := TX4) (N := 4) (ci := 4) hx hb hts igX4 hown C.1 V.1 0 rfl rfl 1 (by decide) (hts _ kt_157) (fun _ h => h) rfl dX4_point_41 ?_
  refine lv_iload_n hx hb dX4_point_44 rfl (lv_at hl 1 rfl) ?_
  refine lv_iload_n hx hb dX4_point_45 rfl (lv_at hl 2 rfl) ?_
  obtain ⟨v2, hv2, h⟩ := bi_e h
  refine gw_ki V (va_runV (As := [.int x1, .int x2]) (rest := []) ⟨hx, hb, hml, hown, hts⟩ (mX2_append (D := D) (a := a) (cA := cA) (u := u) hv2) (cwV 2 hts gcjX4_72 rfl rfl rfl (by decide +kernel) ⟨Nat.le_of_ble_eq_true rfl, Nat.le_of_ble_eq_true rfl⟩) (gw_preV (q0 := 2) (ci := 2) gX_ok C V [.int x1, .int x2] rfl rfl) rfl rfl hl.1 rfl (lv_room (Nat.le_of_ble_eq_true rfl)) dX4_point_46 ⟨Nat.zero_le _, Nat.zero_le _⟩) (fun H locs V => ?_)
  exact gx_reti hx hb hr rfl hlk V (in3a h).symm (in3b h) (in3c h) (Nat.zero_le _) (Nat.zero_le _) dX4_point_49
set_option maxHeartbeats 4000000 in
theorem mX4_point {l : Launch} (hl9 : l.stackTraces = false) {D : va_G} {a : Nat → Nat} {cA : ClassId} {sz : Nat} {u : g_S} {p1 : Int32} {p2 : Int32} {rv : Nat × Int32 × g_S} (h : fcJ_point u p1 p2 = some rv) : gx_Mi D vwCl [(cA, .int)] (cjA a) gX (cjW a cA) l yX4_point wxX4_point (rmX4_point rv.1) (gk rv.1) (6 * gk rv.1) sz u [.ref (a 0), .int p1, .int p2] rv.1 rv.2.1 rv.2.2 := by
  refine gx_Mof (Qc := fun z => va_Qi (gx_Pi rv.1 rv.2.1 rv.2.2) (gw_W D vwCl (cjW a cA)) (rg (cjA a) z)) (XC := fun z => vx_X (gx_Px rv.1 rv.2.2) (gx_W D vwCl (cjW a cA) rv.1) (rg (cjA a) z)) (cc := cX4_point) (maxL := 3) (ret := (some .int)) (by decide) rfl ?_
  intro p e s m below meth c B htab C V
  obtain ⟨hx, hb, hml, hown, hts, hr, hlk⟩ := id B
  have hl := lv_entry ([.ref (a 0), .int p1, .int p2]) (n := 3) (Nat.le_of_ble_eq_true rfl)
  rw [lg_entry_eq]
  generalize (lg_sl ([.ref (a 0), .int p1, .int p2]) ++ List.replicate (3 - (lg_sl ([.ref (a 0), .int p1, .int p2])).length) Slot.unset).toArray = ls at hl ⊢
  have hl : lv_has ls 3 [(0, .ref (a 0)), (1, .int p1), (2, .int p2)] := hl
  unfold fcJ_point at h
  refine lv_iload_n hx hb dX4_point_0 rfl (lv_at hl 1 rfl) ?_
  refine lv_bipush (v := (8 : Int32)) hx hb dX4_point_1 (by decide) ?_
  obtain ⟨v1, hv1, h⟩ := bi_e h
  refine gw_ki V (va_runS (As := [.int p1, .int (8 : Int32)]) (rest := []) ⟨hx, hb, hml, hown, hts⟩ (mX4_isBelow (D := D) (a := a) (cA := cA) (u := u) hv1) (cwS 2 hts gcjX4_37 rfl rfl rfl (by decide +kernel) ⟨Nat.le_of_ble_eq_true rfl, Nat.le_of_ble_eq_true rfl⟩) (gw_preS gX_ok C V [.int p1, .int (8 : Int32)]) rfl rfl hl.1 rfl (lv_room (Nat.le_of_ble_eq_true rfl)) dX4_point_3 ⟨Nat.zero_le _, Nat.zero_le _⟩) (fun H locs V => ?_)
  obtain ⟨v2, hv2, h⟩ := bi_e h
  refine gy_kv V (vx_runS (As := [.int v1]) (rest := []) ⟨hx, hb, hml, hown, hts⟩ (mX4_needKnown hl9 (D := D) (a := a) (cA := cA) (u := u) hv2) (cwS 1 hts gcjX4_41 rfl rfl rfl (by decide +kernel) ⟨Nat.le_of_ble_eq_true rfl, Nat.le_of_ble_eq_true rfl⟩) (gw_preS gX_ok C V [.int v1]) rfl rfl hl.1 rfl (lv_room (Nat.le_of_ble_eq_true rfl)) dX4_point_6 (gkr (gk_le (fun q => in3a (if_f q h))))) (fun k0 H locs ce qe V hat => ?_) (fun k0 H locs V => ?_)
  · have h := if_f k0 h
    exact gx_out htab hlk V hat k0 (in3a h) (in3c h) (gk1 (fun q => k0 ((in3a h).trans q))).1 (gk1 (fun q => k0 ((in3a h).trans q))).2
  have h := if_t k0 h
  refine lv_iload_n hx hb dX4_point_9 rfl (lv_at hl 2 rfl) ?_
  refine lv_ldc (v := (100000000 : Int32)) hx hb hown (hts _ kt_289) dX4_point_10 ?_
  obtain ⟨v3, hv3, h⟩ := bi_e h
  refine gw_ki V (va_runS (As := [.int p2, .int (100000000 : Int32)]) (rest := []) ⟨hx, hb, hml, hown, hts⟩ (mX4_isBelow (D := D) (a := a) (cA := cA) (u := u) hv3) (cwS 2 hts gcjX4_37 rfl rfl rfl (by decide +kernel) ⟨Nat.le_of_ble_eq_true rfl, Nat.le_of_ble_eq_true rfl⟩) (gw_preS gX_ok C V [.int p2, .int (100000000 : Int32)]) rfl rfl hl.1 rfl (lv_room (Nat.le_of_ble_eq_true rfl)) dX4_point_12 ⟨Nat.zero_le _, Nat.zero_le _⟩) (fun H locs V => ?_)
  obtain ⟨v4, hv4, h⟩ := bi_e h
  refine gy_kv V (vx_runS (As := [.int v3]) (rest := []) ⟨hx, hb, hml, hown, hts⟩ (mX4_needRange hl9 (D := D) (a := a) (cA := cA) (u := u) hv4) (cwS 1 hts gcjX4_45 rfl rfl rfl (by decide +kernel) ⟨Nat.le_of_ble_eq_true rfl, Nat.le_of_ble_eq_true rfl⟩) (gw_preS gX_ok C V [.int v3]) rfl rfl hl.1 rfl (lv_room (Nat.le_of_ble_eq_true rfl)) dX4_point_15 (gkr (gk_le (fun q => in3a (if_f q h))))) (fun k0 H locs ce qe V hat => ?_) (fun k0 H locs V => ?_)
  · have h := if_f k0 h
    exact gx_out htab hlk V hat k0 (in3a h) (in3c h) (gk1 (fun q => k0 ((in3a h).trans q))).1 (gk1 (fun q => k0 ((in3a h).trans q))).2
  have h := if_t k0 h
  refine lv_aload_n hx hb dX4_point_18 rfl (lv_at hl 0 rfl) ?_
  refine va_get (C := RX4) (T := TX4) (N := 4) (ci := 4) hx hb hts igX4 hown C.1 V.1 0 rfl rfl 1 (by decide) (hts _ kt_157) (fun _ h => h) rfl dX4_point_19 ?_
  refine va_get (C := RX2) (T := TX2) (N := 2) (ci := 2) hx hb hts igX2 hown C.1 V.1 2 rfl rfl 0 (by decide) (hts _ kt_63) (fun _ h => h) rfl dX4_point_22 ?_
  refine lv_iload_n hx hb dX4_point_25 rfl (lv_at hl 1 rfl) ?_
  obtain ⟨i5, h⟩ := ck_e h
  refine va_iald hx hb C.1 V.1 10 0 rfl rfl i5 dX4_point_26 ?_
  refine lv_bipush (v := (8 : Int32)) hx hb dX4_point_27 (by decide) ?_
  refine lv_icmp_ge (tgt := 36) hx hb dX4_point_29 (by decide) (fun c6 => ?_) (fun c6 => ?_)
  · have h := if_t c6 h
    refine lv_iconst (v := (0 : Int32)) hx hb dX4_point_36 (by decide) ?_
    exact LX4_point_37 hl9 B htab C p1 p2 (0 : Int32) u _ _ _ V (lv_sub hl [0, 1, 2] rfl) h
  · have h := if_f c6 h
    refine lv_iconst (v := (1 : Int32)) hx hb dX4_point_32 (by decide) ?_
    refine lv_goto (tgt := 37) hx hb dX4_point_33 (by decide) ?_
    exact LX4_point_37 hl9 B htab C p1 p2 (1 : Int32) u _ _ _ V (lv_sub hl [0, 1, 2] rfl) h
