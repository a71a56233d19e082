set_option maxHeartbeats 4000000 in
theorem LX4_state_62 {p : Program} {l : Launch} {e : Env} {s : State} {m : MethodId} {below : List Frame} {meth : Method} {c : Code} {args : Array Value} {D : va_G} {a : Nat → Nat} {cA : ClassId} (hl9 : l.stackTraces = false) (B : gw_B p s m args meth c cX4_state 3 none RX4 gT) (htab : ∀ x ∈ c.exceptionTable.toList, False) (C : gw_C D vwCl [(cA, .int)] (cjA a) gX s) {rv : Nat × g_S} : ∀ (x1 : Int32) (x2 : Int32) (y0 : Int32) (u : g_S) (H : Heap) (locs : List Loc) (ls : Array Slot), gw_V D vwCl (cjA a) (cjW a cA) s u H locs → lv_has ls 3 [(0, .ref (a 0)), (1, .int x1), (2, .int x2)] → fcJ_state_62 u x1 x2 y0 = some rv → W p l e (rmX4_state rv.1) s m args below meth c H locs 0 0 (gx_Ev D vwCl (cjA a) (cjW a cA) below args s (gk rv.1) (6 * gk rv.1) rv.1 rv.2) (F0 m 62 ls [.int y0]) := by
  obtain ⟨hx, hb, hml, hown, hts, hr, hlk⟩ := id B
  intro x1 x2 y0 u H locs ls V hl h
  unfold fcJ_state_62 at h
  obtain ⟨v1, hv1, h⟩ := bi_e h
  refine gy_kv V (vx_runS (As := [.int y0]) (rest := []) ⟨hx, hb, hml, hown, hts⟩ (mX4_needState hl9 (D := D) (a := a) (cA := cA) (u := u) hv1) (cwS 1 hts gcjX4_108 rfl rfl rfl (by decide +kernel) ⟨Nat.le_of_ble_eq_true rfl, Nat.le_of_ble_eq_true rfl⟩) (gw_preS gX_ok C V [.int y0]) rfl rfl hl.1 rfl (lv_room (Nat.le_of_ble_eq_true rfl)) dX4_state_62 (gkr (gk_le (fun q => in2a (if_f q h))))) (fun k0 H locs ce qe V hat => ?_) (fun k0 H locs V => ?_)
  · have h := if_f k0 h
    exact gx_out htab hlk V hat k0 (in2a h) (in2b h) (gk1 (fun q => k0 ((in2a h).trans q))).1 (gk1 (fun q => k0 ((in2a h).trans q))).2
  have h := if_t k0 h
  refine lv_aload_n hx hb dX4_state_65 rfl (lv_at hl 0 rfl) ?_
  refine va_get (C := RX4) (T := TX4) (N := 4) (ci := 4) hx hb hts igX4 hown C.1 V.1 0 rfl rfl 3 (by decide) (hts _ kt_159) (fun _ h => h) rfl dX4_state_66 ?_
  refine va_get (C := RX1) (T := TX1) (N := 7) (ci := 1) hx hb hts igX1 hown C.1 V.1 4 rfl rfl 1 (by decide) (hts _ kt_130) (fun _ h => h) rfl dX4_state_69 ?_
  refine lv_iload_n hx hb dX4_state_72 rfl (lv_at hl 1 rfl) ?_
  refine lv_iload_n hx hb dX4_state_73 rfl (lv_at hl 2 rfl) ?_
  obtain ⟨i2, h⟩ := ck_e h
  obtain ⟨u3, eu3, h⟩ := gl_e h
  refine gw_iast (u' := u3) hx hb (cjW_as a cA) C V 22 0 rfl rfl i2 (cjS_17 _ _ _ _ _ _ eu3) dX4_state_74 (fun H locs V => ?_)
  exact gx_retv hx hb hr hlk V (in2a h).symm (in2b h) (Nat.zero_le _) (Nat.zero_le _) dX4_state_75
set_option maxHeartbeats 4000000 in
theorem LX4_state_28 {p : Program} {l : Launch} {e : Env} {s : State} {m : MethodId} {below : List Frame} {meth : Method} {c : Code} {args : Array Value} {D : va_G} {a : Nat → Nat} {cA : ClassId} (hl9 : l.stackTraces = false) (B : gw_B p s m args meth c cX4_state 3 none RX4 gT) (htab : ∀ x ∈ c.exceptionTable.toList, False) (C : gw_C D vwCl [(cA, .int)] (cjA a) gX s) {rv : Nat × g_S} : ∀ (x1 : Int32) (x2 : Int32) (y0 : Int32) (u : g_S) (H : Heap) (locs : List Loc) (ls : Array Slot), gw_V D vwCl (cjA a) (cjW a cA) s u H locs → lv_has ls 3 [(0, .ref (a 0)), (1, .int x1), (2, .int x2)] → fcJ_state_28 u x1 x2 y0 = some rv → W p l e (rmX4_state rv.1) s m args below meth c H locs 0 0 (gx_Ev D vwCl (cjA a) (cjW a cA) below args s (gk rv.1) (6 * gk rv.1) rv.1 rv.2) (F0 m 28 ls [.int y0]) := by
  obtain ⟨hx, hb, hml, hown, hts, hr, hlk⟩ := id B
  intro x1 x2 y0 u H locs ls V hl h
  unfold fcJ_state_28 at h
  obtain ⟨v1, hv1, h⟩ := bi_e h
  refine gy_kv V (vx_runS (As := [.int y0]) (rest := []) ⟨hx, hb, hml, hown, hts⟩ (mX4_needRange hl9 (D := D) (a := a) (cA := cA) (u := u) hv1) (cwS 1 hts gcjX4_45 rfl rfl rfl (by decide +kernel) ⟨Nat.le_of_ble_eq_true rfl, Nat.le_of_ble_eq_true rfl⟩) (gw_preS gX_ok C V [.int y0]) rfl rfl hl.1 rfl (lv_room (Nat.le_of_ble_eq_true rfl)) dX4_state_28 (gkr (gk_le (fun q => in2a (if_f q h))))) (fun k0 H locs ce qe V hat => ?_) (fun k0 H locs V => ?_)
  · have h := if_f k0 h
    exact gx_out htab hlk V hat k0 (in2a h) (in2b h) (gk1 (fun q => k0 ((in2a h).trans q))).1 (gk1 (fun q => k0 ((in2a h).trans q))).2
  have h := if_t k0 h
  refine lv_aload_n hx hb dX4_state_31 rfl (lv_at hl 0 rfl) ?_
  refine va_get (C := RX4) (T := TX4) (N := 4) (ci := 4) hx hb hts igX4 hown C.1 V.1 0 rfl rfl 3 (by decide) (hts _ kt_159) (fun _ h => h) rfl dX4_state_32 ?_
  refine va_get (C := RX1) (T := TX1) (N := 7) (ci := 1) hx hb hts igX1 hown C.1 V.1 4 rfl rfl 1 (by decide) (hts _ kt_130) (fun _ h => h) rfl dX4_state_35 ?_
  refine lv_iload_n hx hb dX4_state_38 rfl (lv_at hl 1 rfl) ?_
  obtain ⟨i2, h⟩ := ck_e h
  refine va_iald hx hb C.1 V.1 22 0 rfl rfl i2 dX4_state_39 ?_
  refine lv_iload_n hx hb dX4_state_40 rfl (lv_at hl 2 rfl) ?_
  refine lv_icmp_eq (tgt := 61) hx hb dX4_state_41 (by decide) (fun c3 => ?_) (fun c3 => ?_)
  · have h := if_t c3 h
    refine lv_iconst (v := (0 : Int32)) hx hb dX4_state_61 (by decide) ?_
    exact LX4_state_62 hl9 B htab C x1 x2 (0 : Int32) u _ _ _ V (lv_sub hl [0, 1, 2] rfl) h
  · have h := if_f c3 h
    refine lv_aload_n hx hb dX4_state_44 rfl (lv_at hl 0 rfl) ?_
    refine va_get (C := RX4) (T := TX4) (N := 4) (ci := 4) hx hb hts igX4 hown C.1 V.1 0 rfl rfl 3 (by decide) (hts _ kt_159) (fun _ h => h) rfl dX4_state_45 ?_
    refine va_get (C := RX1) (T := TX1) (N := 7) (ci := 1) hx hb hts igX1 hown C.1 V.1 4 rfl rfl 1 (by decide) (hts _ kt_130) (fun _ h => h) rfl dX4_state_48 ?_
    refine lv_iload_n hx hb dX4_state_51 rfl (lv_at hl 1 rfl) ?_
    obtain ⟨i4, h⟩ := ck_e h
    refine va_iald hx hb C.1 V.1 22 0 rfl rfl i4 dX4_state_52 ?_
    refine lv_iconst (v := (3 : Int32)) hx hb dX4_state_53 (by decide) ?_
    refine lv_icmp_eq (tgt := 61) hx hb dX4_state_54 (by decide) (fun c5 => ?_) (fun c5 => ?_)
    · have h := if_t c5 h
      refine lv_iconst (v := (0 : Int32)) hx hb dX4_state_61 (by decide) ?_
      exact LX4_state_62 hl9 B htab C x1 x2 (0 : Int32) u _ _ _ V (lv_sub hl [0, 1, 2] rfl) h
    · have h := if_f c5 h
      refine lv_iconst (v := (1 : Int32)) hx hb dX4_state_57 (by decide) ?_
      refine lv_goto (tgt := 62) hx hb dX4_state_58 (by decide) ?_
      exact LX4_state_62 hl9 B htab C x1 x2 (1 : Int32) u _ _ _ V (lv_sub hl [0, 1, 2] rfl) h
set_option maxHeartbeats 4000000 in
theorem mX4_state {l : Launch} (hl9 : l.stackTraces = false) {D : va_G} {a : Nat → Nat} {cA : ClassId} {sz : Nat} {u : g_S} {p1 : Int32} {p2 : Int32} {rv : Nat × g_S} (h : fcJ_state u p1 p2 = some rv) : gx_Mv D vwCl [(cA, .int)] (cjA a) gX (cjW a cA) l yX4_state wxX4_state (rmX4_state rv.1) (gk rv.1) (6 * gk rv.1) sz u [.ref (a 0), .int p1, .int p2] rv.1 rv.2 := by
  refine gx_Mof (Qc := fun z => va_Qv (gx_Pv rv.1 rv.2) (gw_W D vwCl (cjW a cA)) (rg (cjA a) z)) (XC := fun z => vx_X (gx_Px rv.1 rv.2) (gx_W D vwCl (cjW a cA) rv.1) (rg (cjA a) z)) (cc := cX4_state) (maxL := 3) (ret := none) (by decide) rfl ?_
  intro p e s m below meth c B htab C V
  obtain ⟨hx, hb, hml, hown, hts, hr, hlk⟩ := id B
  have hl := lv_entry ([.ref (a 0), .int p1, .int p2]) (n := 3) (Nat.le_of_ble_eq_true rfl)
  rw [lg_entry_eq]
  generalize (lg_sl ([.ref (a 0), .int p1, .int p2]) ++ List.replicate (3 - (lg_sl ([.ref (a 0), .int p1, .int p2])).length) Slot.unset).toArray = ls at hl ⊢
  have hl : lv_has ls 3 [(0, .ref (a 0)), (1, .int p1), (2, .int p2)] := hl
  unfold fcJ_state at h
  refine lv_iload_n hx hb dX4_state_0 rfl (lv_at hl 1 rfl) ?_
  refine lv_aload_n hx hb dX4_state_1 rfl (lv_at hl 0 rfl) ?_
  refine va_get (C := RX4) (T := TX4) (N := 4) (ci := 4) hx hb hts igX4 hown C.1 V.1 0 rfl rfl 3 (by decide) (hts _ kt_159) (fun _ h => h) rfl dX4_state_2 ?_
  refine va_get (C := RX1) (T := TX1) (N := 7) (ci := 1) hx hb hts igX1 hown C.1 V.1 4 rfl rfl 0 (by decide) (hts _ kt_128) (fun _ h => h) rfl dX4_state_5 ?_
  obtain ⟨v1, hv1, h⟩ := bi_e h
  refine gw_ki V (va_runS (As := [.int p1, .int (u.1 1)]) (rest := []) ⟨hx, hb, hml, hown, hts⟩ (mX4_isBelow (D := D) (a := a) (cA := cA) (u := u) hv1) (cwS 2 hts gcjX4_37 rfl rfl rfl (by decide +kernel) ⟨Nat.le_of_ble_eq_true rfl, Nat.le_of_ble_eq_true rfl⟩) (gw_preS gX_ok C V [.int p1, .int (u.1 1)]) rfl rfl hl.1 rfl (lv_room (Nat.le_of_ble_eq_true rfl)) dX4_state_8 ⟨Nat.zero_le _, Nat.zero_le _⟩) (fun H locs V => ?_)
  obtain ⟨v2, hv2, h⟩ := bi_e h
  refine gy_kv V (vx_runS (As := [.int v1]) (rest := []) ⟨hx, hb, hml, hown, hts⟩ (mX4_needKnown hl9 (D := D) (a := a) (cA := cA) (u := u) hv2) (cwS 1 hts gcjX4_41 rfl rfl rfl (by decide +kernel) ⟨Nat.le_of_ble_eq_true rfl, Nat.le_of_ble_eq_true rfl⟩) (gw_preS gX_ok C V [.int v1]) rfl rfl hl.1 rfl (lv_room (Nat.le_of_ble_eq_true rfl)) dX4_state_11 (gkr (gk_le (fun q => in2a (if_f q h))))) (fun k0 H locs ce qe V hat => ?_) (fun k0 H locs V => ?_)
  · have h := if_f k0 h
    exact gx_out htab hlk V hat k0 (in2a h) (in2b h) (gk1 (fun q => k0 ((in2a h).trans q))).1 (gk1 (fun q => k0 ((in2a h).trans q))).2
  have h := if_t k0 h
  refine lv_iload_n hx hb dX4_state_14 rfl (lv_at hl 2 rfl) ?_
  refine lv_if_lt (tgt := 27) hx hb dX4_state_15 (by decide) (fun c3 => ?_) (fun c3 => ?_)
  · have h := if_t c3 h
    refine lv_iconst (v := (0 : Int32)) hx hb dX4_state_27 (by decide) ?_
    exact LX4_state_28 hl9 B htab C p1 p2 (0 : Int32) u _ _ _ V (lv_sub hl [0, 1, 2] rfl) h
  · have h := if_f c3 h
    refine lv_iload_n hx hb dX4_state_18 rfl (lv_at hl 2 rfl) ?_
    refine lv_iconst (v := (2 : Int32)) hx hb dX4_state_19 (by decide) ?_
    refine lv_icmp_gt (tgt := 27) hx hb dX4_state_20 (by decide) (fun c4 => ?_) (fun c4 => ?_)
    · have h := if_t c4 h
      refine lv_iconst (v := (0 : Int32)) hx hb dX4_state_27 (by decide) ?_
      exact LX4_state_28 hl9 B htab C p1 p2 (0 : Int32) u _ _ _ V (lv_sub hl [0, 1, 2] rfl) h
    · have h := if_f c4 h
      refine lv_iconst (v := (1 : Int32)) hx hb dX4_state_23 (by decide) ?_
      refine lv_goto (tgt := 28) hx hb dX4_state_24 (by decide) ?_
      exact LX4_state_28 hl9 B htab C p1 p2 (1 : Int32) u _ _ _ V (lv_sub hl [0, 1, 2] rfl) h
set_option maxHeartbeats 4000000 in
theorem mX4_needTwoCalls {l : Launch} (hl9 : l.stackTraces = false) {D : va_G} {a : Nat → Nat} {cA : ClassId} {sz : Nat} {u : g_S} {p1 : Int32} {p2 : Int32} {rv : Nat} (h : fcJ_needTwoCalls u p1 p2 = some rv) : gx_Mv D vwCl [(cA, .int)] (cjA a) gX (cjW a cA) l yX4_needTwoCalls wxX4_needTwoCalls (rmX4_needTwoCalls rv) (gk rv) (6 * gk rv) sz u [.ref (a 0), .int p1, .int p2] rv u := by
  refine gx_Mof (Qc := fun z => va_Qv (gx_Pv rv u) (gw_W D vwCl (cjW a cA)) (rg (cjA a) z)) (XC := fun z => vx_X (gx_Px rv u) (gx_W D vwCl (cjW a cA) rv) (rg (cjA a) z)) (cc := cX4_needTwoCalls) (maxL := 3) (ret := none) (by decide) rfl ?_
  intro p e s m below meth c B htab C V
  obtain ⟨hx, hb, hml, hown, hts, hr, hlk⟩ := id B
  have hl := lv_entry ([.ref (a 0), .int p1, .int p2]) (n := 3) (Nat.le_of_ble_eq_true rfl)
  rw [lg_entry_eq]
  generalize (lg_sl ([.ref (a 0), .int p1, .int p2]) ++ List.replicate (3 - (lg_sl ([.ref (a 0), .int p1, .int p2])).length) Slot.unset).toArray = ls at hl ⊢
  have hl : lv_has ls 3 [(0, .ref (a 0)), (1, .int p1), (2, .int p2)] := hl
  unfold fcJ_needTwoCalls at h
  refine lv_iload_n hx hb dX4_needTwoCalls_0 rfl (lv_at hl 1 rfl) ?_
  refine lv_aload_n hx hb dX4_needTwoCalls_1 rfl (lv_at hl 0 rfl) ?_
  refine va_get (C := RX4) (T := TX4) (N := 4) (ci := 4) hx hb hts igX4 hown C.1 V.1 0 rfl rfl 2 (by decide) (hts _ kt_158) (fun _ h => h) rfl dX4_needTwoCalls_2 ?_
  refine va_get (C := RX0) (T := TX0) (N := 11) (ci := 0) hx hb hts igX0 hown C.1 V.1 3 rfl rfl 0 (by decide) (hts _ kt_77) (fun _ h => h) rfl dX4_needTwoCalls_5 ?_
  obtain ⟨v1, hv1, h⟩ := bi_e h
  refine gw_ki V (va_runS (As := [.int p1, .int (u.1 0)]) (rest := []) ⟨hx, hb, hml, hown, hts⟩ (mX4_isBelow (D := D) (a := a) (cA := cA) (u := u) hv1) (cwS 2 hts gcjX4_37 rfl rfl rfl (by decide +kernel) ⟨Nat.le_of_ble_eq_true rfl, Nat.le_of_ble_eq_true rfl⟩) (gw_preS gX_ok C V [.int p1, .int (u.1 0)]) rfl rfl hl.1 rfl (lv_room (Nat.le_of_ble_eq_true rfl)) dX4_needTwoCalls_8 ⟨Nat.zero_le _, Nat.zero_le _⟩) (fun H locs V => ?_)
  refine lv_if_eq (tgt := 37) hx hb dX4_needTwoCalls_11 (by decide) (fun c2 => ?_) (fun c2 => ?_)
  · have h := if_t c2 h
    refine lv_iconst (v := (0 : Int32)) hx hb dX4_needTwoCalls_37 (by decide) ?_
    obtain ⟨v3, hv3, h⟩ := bi_e h
    refine gy_kv V (vx_runS (As := [.int (0 : Int32)]) (rest := []) ⟨hx, hb, hml, hown, hts⟩ (mX4_needKnown hl9 (D := D) (a := a) (cA := cA) (u := u) hv3) (cwS 1 hts gcjX4_41 rfl rfl rfl (by decide +kernel) ⟨Nat.le_of_ble_eq_true rfl, Nat.le_of_ble_eq_true rfl⟩) (gw_preS gX_ok C V [.int (0 : Int32)]) rfl rfl hl.1 rfl (lv_room (Nat.le_of_ble_eq_true rfl)) dX4_needTwoCalls_38 (gkr (gk_le (fun q => Option.some.inj (if_f q h))))) (fun k0 H locs ce qe V hat => ?_) (fun k0 H locs V => ?_)
    · have h := if_f k0 h
      exact gx_out htab hlk V hat k0 (Option.some.inj h) rfl (gk1 (fun q => k0 ((Option.some.inj h).trans q))).1 (gk1 (fun q => k0 ((Option.some.inj h).trans q))).2
    have h := if_t k0 h
    exact gx_retv hx hb hr hlk V (Option.some.inj h).symm rfl (Nat.zero_le _) (Nat.zero_le _) dX4_needTwoCalls_41
  · have h := if_f c2 h
    refine lv_iload_n hx hb dX4_needTwoCalls_14 rfl (lv_at hl 2 rfl) ?_
    refine lv_aload_n hx hb dX4_needTwoCalls_15 rfl (lv_at hl 0 rfl) ?_
    refine va_get (C := RX4) (T := TX4) (N := 4) (ci := 4) hx hb hts igX4 hown C.1 V.1 0 rfl rfl 2 (by decide) (hts _ kt_158) (fun _ h => h) rfl dX4_needTwoCalls_16 ?_
    refine va_get (C := RX0) (T := TX0) (N := 11) (ci := 0) hx hb hts igX0 hown C.1 V.1 3 rfl rfl 0 (by decide) (hts _ kt_77) (fun _ h => h) rfl dX4_needTwoCalls_19 ?_
    obtain ⟨v4, hv4, h⟩ := bi_e h
    refine gw_ki V (va_runS (As := [.int p2, .int (u.1 0)]) (rest := []) ⟨hx, hb, hml, hown, hts⟩ (mX4_isBelow (D := D) (a := a) (cA := cA) (u := u) hv4) (cwS 2 hts gcjX4_37 rfl rfl rfl (by decide +kernel) ⟨Nat.le_of_ble_eq_true rfl, Nat.le_of_ble_eq_true rfl⟩) (gw_preS gX_ok C V [.int p2, .int (u.1 0)]) rfl rfl hl.1 rfl (lv_room (Nat.le_of_ble_eq_true rfl)) dX4_needTwoCalls_22 ⟨Nat.zero_le _, Nat.zero_le _⟩) (fun H locs V => ?_)
    refine lv_if_eq (tgt := 37) hx hb dX4_needTwoCalls_25 (by decide) (fun c5 => ?_) (fun c5 => ?_)
    · have h := if_t c5 h
      refine lv_iconst (v := (0 : Int32)) hx hb dX4_needTwoCalls_37 (by decide) ?_
      obtain ⟨v6, hv6, h⟩ := bi_e h
      refine gy_kv V (vx_runS (As := [.int (0 : Int32)]) (rest := []) ⟨hx, hb, hml, hown, hts⟩ (mX4_needKnown hl9 (D := D) (a := a) (cA := cA) (u := u) hv6) (cwS 1 hts gcjX4_41 rfl rfl rfl (by decide +kernel) ⟨Nat.le_of_ble_eq_true rfl, Nat.le_of_ble_eq_true rfl⟩) (gw_preS gX_ok C V [.int (0 : Int32)]) rfl rfl hl.1 rfl (lv_room (Nat.le_of_ble_eq_true rfl)) dX4_needTwoCalls_38 (gkr (gk_le (fun q => Option.some.inj (if_f q h))))) (fun k0 H locs ce qe V hat => ?_) (fun k0 H locs V => ?_)
      · have h := if_f k0 h
        exact gx_out htab hlk V hat k0 (Option.some.inj h) rfl (gk1 (fun q => k0 ((Option.some.inj h).trans q))).1 (gk1 (fun q => k0 ((Option.some.inj h).trans q))).2
      have h := if_t k0 h
      exact gx_retv hx hb hr hlk V (Option.some.inj h).symm rfl (Nat.zero_le _) (Nat.zero_le _) dX4_needTwoCalls_41
    · have h := if_f c5 h
      refine lv_iload_n hx hb dX4_needTwoCalls_28 rfl (lv_at hl 1 rfl) ?_
      refine lv_iload_n hx hb dX4_needTwoCalls_29 rfl (lv_at hl 2 rfl) ?_
      refine lv_icmp_eq (tgt := 37) hx hb dX4_needTwoCalls_30 (by decide) (fun c7 => ?_) (fun c7 => ?_)
      · have h := if_t c7 h
        refine lv_iconst (v := (0 : Int32)) hx hb dX4_needTwoCalls_37 (by decide) ?_
        obtain ⟨v8, hv8, h⟩ := bi_e h
        refine gy_kv V (vx_runS (As := [.int (0 : Int32)]) (rest := []) ⟨hx, hb, hml, hown, hts⟩ (mX4_needKnown hl9 (D := D) (a := a) (cA := cA) (u := u) hv8) (cwS 1 hts gcjX4_41 rfl rfl rfl (by decide +kernel) ⟨Nat.le_of_ble_eq_true rfl, Nat.le_of_ble_eq_true rfl⟩) (gw_preS gX_ok C V [.int (0 : Int32)]) rfl rfl hl.1 rfl (lv_room (Nat.le_of_ble_eq_true rfl)) dX4_needTwoCalls_38 (gkr (gk_le (fun q => Option.some.inj (if_f q h))))) (fun k0 H locs ce qe V hat => ?_) (fun k0 H locs V => ?_)
        · have h := if_f k0 h
          exact gx_out htab hlk V hat k0 (Option.some.inj h) rfl (gk1 (fun q => k0 ((Option.some.inj h).trans q))).1 (gk1 (fun q => k0 ((Option.some.inj h).trans q))).2
        have h := if_t k0 h
        exact gx_retv hx hb hr hlk V (Option.some.inj h).symm rfl (Nat.zero_le _) (Nat.zero_le _) dX4_needTwoCalls_41
      · have h := if_f c7 h
        refine lv_iconst (v := (1 : Int32)) hx hb dX4_needTwoCalls_33 (by decide) ?_
        refine lv_goto (tgt := 38) hx hb dX4_needTwoCalls_34 (by decide) ?_
        obtain ⟨v9, hv9, h⟩ := bi_e h
        refine gy_kv V (vx_runS (As := [.int (1 : Int32)]) (rest := []) ⟨hx, hb, hml, hown, hts⟩ (mX4_needKnown hl9 (D := D) (a := a) (cA := cA) (u := u) hv9) (cwS 1 hts gcjX4_41 rfl rfl rfl (by decide +kernel) ⟨Nat.le_of_ble_eq_true rfl, Nat.le_of_ble_eq_true rfl⟩) (gw_preS gX_ok C V [.int (1 : Int32)]) rfl rfl hl.1 rfl (lv_room (Nat.le_of_ble_eq_true rfl)) dX4_needTwoCalls_38 (gkr (gk_le (fun q => Option.some.inj (if_f q h))))) (fun k0 H locs ce qe V hat => ?_) (fun k0 H locs V => ?_)
        · have h := if_f k0 h
          exact gx_out htab hlk V hat k0 (Option.some.inj h) rfl (gk1 (fun q => k0 ((Option.some.inj h).trans q))).1 (gk1 (fun q => k0 ((Option.some.inj h).trans q))).2
        have h := if_t k0 h
        exact gx_retv hx hb hr hlk V (Option.some.inj h).symm rfl (Nat.zero_le _) (Nat.zero_le _) dX4_needTwoCalls_41
set_option maxHeartbeats 4000000 in
theorem mX4_share {l : Launch} (hl9 : l.stackTraces = false) {D : va_G} {a : Nat → Nat} {cA : ClassId} {sz : Nat} {u : g_S} {p1 : Int32} {p2 : Int32} {rv : Nat × Int32} (h : fcJ_share u p1 p2 = some rv) : gx_Mi D vwCl [(cA, .int)] (cjA a) gX (cjW a cA) l yX4_share wxX4_share (rmX4_share rv.1) (gk rv.1) (6 * gk rv.1) sz u [.ref (a 0), .int p1, .int p2] rv.1 rv.2 u := by
  refine gx_Mof (Qc := fun z => va_Qi (gx_Pi rv.1 rv.2 u) (gw_W D vwCl (cjW a cA)) (rg (cjA a) z)) (XC := fun z => vx_X (gx_Px rv.1 u) (gx_W D vwCl (cjW a cA) rv.1) (rg (cjA a) z)) (cc := cX4_share) (maxL := 5) (ret := (some .int)) (by decide) rfl ?_
  intro p e s m below meth c B htab C V
  obtain ⟨hx, hb, hml, hown, hts, hr, hlk⟩ := id B
  have hl := lv_entry ([.ref (a 0), .int p1, .int p2]) (n := 5) (Nat.le_of_ble_eq_true rfl)
  rw [lg_entry_eq]
  generalize (lg_sl ([.ref (a 0), .int p1, .int p2]) ++ List.replicate (5 - (lg_sl ([.ref (a 0), .int p1, .int p2])).length) Slot.unset).toArray = ls at hl ⊢
  have hl : lv_has ls 5 [(0, .ref (a 0)), (1, .int p1), (2, .int p2)] := hl
  unfold fcJ_share at h
  refine lv_aload_n hx hb dX4_share_0 rfl (lv_at hl 0 rfl) ?_
  refine lv_iload_n hx hb dX4_share_1 rfl (lv_at hl 1 rfl) ?_
  refine lv_iload_n hx hb dX4_share_2 rfl (lv_at hl 2 rfl) ?_
  obtain ⟨v1, hv1, h⟩ := bi_e h
  refine gy_kv V (vx_runV (As := [.int p1, .int p2]) (rest := []) ⟨hx, hb, hml, hown, hts⟩ (mX4_needTwoCalls hl9 (D := D) (a := a) (cA := cA) (u := u) hv1) (cwV 2 hts gcjX4_151 rfl rfl rfl (by decide +kernel) ⟨Nat.le_of_ble_eq_true rfl, Nat.le_of_ble_eq_true rfl⟩) (gw_preV (q0 := 0) (ci := 4) gX_ok C V [.int p1, .int p2] rfl rfl) rfl rfl hl.1 rfl (lv_room (Nat.le_of_ble_eq_true rfl)) dX4_share_3 (gkr (gk_le (fun q => in2a (if_f q h))))) (fun k0 H locs ce qe V hat => ?_) (fun k0 H locs V => ?_)
  · have h := if_f k0 h
    exact gx_out htab hlk V hat k0 (in2a h) rfl (gk1 (fun q => k0 ((in2a h).trans q))).1 (gk1 (fun q => k0 ((in2a h).trans q))).2
  have h := if_t k0 h
  refine lv_aload_n hx hb dX4_share_6 rfl (lv_at hl 0 rfl) ?_
  refine va_get (C := RX4) (T := TX4) (N := 4) (ci := 4) hx hb hts igX4 hown C.1 V.1 0 rfl rfl 2 (by decide) (hts _ kt_158) (fun _ h => h) rfl dX4_share_7 ?_
  refine va_get (C := RX0) (T := TX0) (N := 11) (ci := 0) hx hb hts igX0 hown C.1 V.1 3 rfl rfl 2 (by decide) (hts _ kt_81) (fun _ h => h) rfl dX4_share_10 ?_
  refine lv_iload_n hx hb dX4_share_13 rfl (lv_at hl 1 rfl) ?_
  refine lv_iload_n hx hb dX4_share_14 rfl (lv_at hl 2 rfl) ?_
  refine va_mmax hx hb (hml.trans hl.1.symm) hown (hts _ kt_495) (hts _ kt_496) (hts _ kt_15) (hts _ kt_497) (Nat.le_of_ble_eq_true rfl) (Nat.le_of_ble_eq_true rfl) (Nat.zero_le _) (Nat.zero_le _) dX4_share_15 ?_
  obtain ⟨i2, h⟩ := ck_e h
  refine va_iald hx hb C.1 V.1 13 0 rfl rfl i2 dX4_share_18 ?_
  obtain ⟨w3, ew3, h⟩ := gl_e h
  refine gw_nmi ew3 ?_
  refine lv_istore_n (lv' := [(3, .int w3), (0, .ref (a 0)), (1, .int p1), (2, .int p2)]) hx hb dX4_share_19 rfl hl (by decide) rfl (fun ls hl => ?_)
  refine lv_aload_n hx hb dX4_share_20 rfl (lv_at hl 1 rfl) ?_
  refine va_get (C := RX4) (T := TX4) (N := 4) (ci := 4) hx hb hts igX4 hown C.1 V.1 0 rfl rfl 0 (by decide) (hts _ kt_156) (fun _ h => h) rfl dX4_share_21 ?_
  refine lv_iload_n hx hb dX4_share_24 rfl (lv_at hl 0 rfl) ?_
  refine lv_aload_n hx hb dX4_share_25 rfl (lv_at hl 1 rfl) ?_
  refine va_get (C := RX4) (T := TX4) (N := 4) (ci := 4) hx hb hts igX4 hown C.1 V.1 0 rfl rfl 2 (by decide) (hts _ kt_158) (fun _ h => h) rfl dX4_share_26 ?_
  refine va_get (C := RX0) (T := TX0) (N := 11) (ci := 0) hx hb hts igX0 hown C.1 V.1 3 rfl rfl 4 (by decide) (hts _ kt_85) (fun _ h => h) rfl dX4_share_29 ?_
  refine lv_iload_n hx hb dX4_share_32 rfl (lv_at hl 2 rfl) ?_
  obtain ⟨i4, h⟩ := ck_e h
  refine va_iald hx hb C.1 V.1 15 0 rfl rfl i4 dX4_share_33 ?_
  refine lv_aload_n hx hb dX4_share_34 rfl (lv_at hl 1 rfl) ?_
  refine va_get (C := RX4) (T := TX4) (N := 4) (ci := 4) hx hb hts igX4 hown C.1 V.1 0 rfl rfl 2 (by decide) (hts _ kt_158) (fun _ h => h) rfl dX4_share_35 ?_
  refine va_get (C := RX0) (T := TX0) (N := 11) (ci := 0) hx hb hts igX0 hown C.1 V.1 3 rfl rfl 4 (by decide) (hts _ kt_85) (fun _ h => h) rfl dX4_share_38 ?_
  refine lv_iload_n hx hb dX4_share_41 rfl (lv_at hl 3 rfl) ?_
  obtain ⟨i5, h⟩ := ck_e h
  refine va_iald hx hb C.1 V.1 15 0 rfl rfl i5 dX4_share_42 ?_
  refine lv_ior hx hb dX4_share_43 ?_
  obtain ⟨v6, hv6, h⟩ := bi_e h
  refine gw_ki V (va_runV (As := [.int w3, .int ((u.2 10 p1.toNatClampNeg) ||| (u.2 10 p2.toNatClampNeg))]) (rest := []) ⟨hx, hb, hml, hown, hts⟩ (mX3_weigh (D := D) (a := a) (cA := cA) (u := u) hv6) (cwV 2 hts gcjX4_157 rfl rfl rfl (by decide +kernel) ⟨Nat.le_of_ble_eq_true rfl, Nat.le_of_ble_eq_true rfl⟩) (gw_preV (q0 := 1) (ci := 3) gX_ok C V [.int w3, .int ((u.2 10 p1.toNatClampNeg) ||| (u.2 10 p2.toNatClampNeg))] rfl rfl) rfl rfl hl.1 rfl (lv_room (Nat.le_of_ble_eq_true rfl)) dX4_share_44 ⟨Nat.zero_le _, Nat.zero_le _⟩) (fun H locs V => ?_)
  refine lv_istore (lv' := [(4, .int v6), (3, .int w3), (0, .ref (a 0)), (1, .int p1), (2, .int p2)]) hx hb dX4_share_47 hl (by decide) rfl (fun ls hl => ?_)
  refine lv_iload hx hb dX4_share_49 (lv_at hl 0 rfl) ?_
  refine lv_if_ne (tgt := 64) hx hb dX4_share_51 (by decide) (fun c7 => ?_) (fun c7 => ?_)
  · have h := if_t c7 h
    refine lv_sipush (v := (1000 : Int32)) hx hb dX4_share_64 (by decide) ?_
    refine lv_aload_n hx hb dX4_share_67 rfl (lv_at hl 2 rfl) ?_
    refine va_get (C := RX4) (T := TX4) (N := 4) (ci := 4) hx hb hts igX4 hown C.1 V.1 0 rfl rfl 0 (by decide) (hts _ kt_156) (fun _ h => h) rfl dX4_share_68 ?_
    refine lv_iload_n hx hb dX4_share_71 rfl (lv_at hl 1 rfl) ?_
    refine lv_aload_n hx hb dX4_share_72 rfl (lv_at hl 2 rfl) ?_
    refine va_get (C := RX4) (T := TX4) (N := 4) (ci := 4) hx hb hts igX4 hown C.1 V.1 0 rfl rfl 2 (by decide) (hts _ kt_158) (fun _ h => h) rfl dX4_share_73 ?_
    refine va_get (C := RX0) (T := TX0) (N := 11) (ci := 0) hx hb hts igX0 hown C.1 V.1 3 rfl rfl 4 (by decide) (hts _ kt_85) (fun _ h => h) rfl dX4_share_76 ?_
    refine lv_iload_n hx hb dX4_share_79 rfl (lv_at hl 3 rfl) ?_
    obtain ⟨i8, h⟩ := ck_e h
    refine va_iald hx hb C.1 V.1 15 0 rfl rfl i8 dX4_share_80 ?_
    refine lv_aload_n hx hb dX4_share_81 rfl (lv_at hl 2 rfl) ?_
    refine va_get (C := RX4) (T := TX4) (N := 4) (ci := 4) hx hb hts igX4 hown C.1 V.1 0 rfl rfl 2 (by decide) (hts _ kt_158) (fun _ h => h) rfl dX4_share_82 ?_
    refine va_get (C := RX0) (T := TX0) (N := 11) (ci := 0) hx hb hts igX0 hown C.1 V.1 3 rfl rfl 4 (by decide) (hts _ kt_85) (fun _ h => h) rfl dX4_share_85 ?_
    refine lv_iload_n hx hb dX4_share_88 rfl (lv_at hl 4 rfl) ?_
    obtain ⟨i9, h⟩ := ck_e h
    refine va_iald hx hb C.1 V.1 15 0 rfl rfl i9 dX4_share_89 ?_
    refine lv_iand hx hb dX4_share_90 ?_
    obtain ⟨v10, hv10, h⟩ := bi_e h
    refine gw_ki V (va_runV (As := [.int w3, .int ((u.2 10 p1.toNatClampNeg) &&& (u.2 10 p2.toNatClampNeg))]) (rest := [.int (1000 : Int32)]) ⟨hx, hb, hml, hown, hts⟩ (mX3_weigh (D := D) (a := a) (cA := cA) (u := u) hv10) (cwV 2 hts gcjX4_157 rfl rfl rfl (by decide +kernel) ⟨Nat.le_of_ble_eq_true rfl, Nat.le_of_ble_eq_true rfl⟩) (gw_preV (q0 := 1) (ci := 3) gX_ok C V [.int w3, .int ((u.2 10 p1.toNatClampNeg) &&& (u.2 10 p2.toNatClampNeg))] rfl rfl) rfl rfl hl.1 rfl (lv_room (Nat.le_of_ble_eq_true rfl)) dX4_share_91 ⟨Nat.zero_le _, Nat.zero_le _⟩) (fun H locs V => ?_)
    refine lv_imul hx hb dX4_share_94 ?_
    refine lv_iload hx hb dX4_share_95 (lv_at hl 0 rfl) ?_
    obtain ⟨z11, h⟩ := if_z h
    refine lv_idiv hx hb dX4_share_97 z11 ?_
    exact gx_reti hx hb hr rfl hlk V (in2a h).symm (in2b h) rfl (Nat.zero_le _) (Nat.zero_le _) dX4_share_98
  · have h := if_nn c7 h
    exact gx_thr (names := gEs) hx hb hl9 hown hts (by decide +kernel) (by decide +kernel) kt_517 kt_16 tA_5 tB_5 (gX_b C.2.2) tG_5 (gX_s5 C.2.2).choose_spec (gX_u C.2.2) (gX_v C.2.2) V htab hl.1 hml hlk (by rw [← (in2a h)]; rfl) (by rw [← (in2a h)]; decide) rfl dX4_share_54 dX4_share_57 dX4_share_58 dX4_share_60 dX4_share_63 (Nat.le_of_ble_eq_true rfl) (Nat.le_of_ble_eq_true rfl) (gk1 (by rw [← (in2a h)]; decide : ¬ rv.1 = 0)).1 (gk1 (by rw [← (in2a h)]; decide : ¬ rv.1 = 0)).2 (gk1 (by rw [← (in2a h)]; decide : ¬ rv.1 = 0)).1 (gk1 (by rw [← (in2a h)]; decide : ¬ rv.1 = 0)).2
set_option maxHeartbeats 4000000 in
theorem mX4_agree {l : Launch} (hl9 : l.stackTraces = false) {D : va_G} {a : Nat → Nat} {cA : ClassId} {sz : Nat} {u : g_S} {p1 : Int32} {p2 : Int32} {rv : Nat × Int32} (h : fcJ_agree u p1 p2 = some rv) : gx_Mi D vwCl [(cA, .int)] (cjA a) gX (cjW a cA) l yX4_agree wxX4_agree (rmX4_agree rv.1) (gk rv.1) (6 * gk rv.1) sz u [.ref (a 0), .int p1, .int p2] rv.1 rv.2 u := by
  refine gx_Mof (Qc := fun z => va_Qi (gx_Pi rv.1 rv.2 u) (gw_W D vwCl (cjW a cA)) (rg (cjA a) z)) (XC := fun z => vx_X (gx_Px rv.1 u) (gx_W D vwCl (cjW a cA) rv.1) (rg (cjA a) z)) (cc := cX4_agree) (maxL := 3) (ret := (some .int)) (by decide) rfl ?_
  intro p e s m below meth c B htab C V
  obtain ⟨hx, hb, hml, hown, hts, hr, hlk⟩ := id B
  have hl := lv_entry ([.ref (a 0), .int p1, .int p2]) (n := 3) (Nat.le_of_ble_eq_true rfl)
  rw [lg_entry_eq]
  generalize (lg_sl ([.ref (a 0), .int p1, .int p2]) ++ List.replicate (3 - (lg_sl ([.ref (a 0), .int p1, .int p2])).length) Slot.unset).toArray = ls at hl ⊢
  have hl : lv_has ls 3 [(0, .ref (a 0)), (1, .int p1), (2, .int p2)] := hl
  unfold fcJ_agree at h
  refine lv_aload_n hx hb dX4_agree_0 rfl (lv_at hl 0 rfl) ?_
  refine lv_iload_n hx hb dX4_agree_1 rfl (lv_at hl 1 rfl) ?_
  refine lv_iload_n hx hb dX4_agree_2 rfl (lv_at hl 2 rfl) ?_
  obtain ⟨v1, hv1, h⟩ := bi_e h
  refine gy_kv V (vx_runV (As := [.int p1, .int p2]) (rest := []) ⟨hx, hb, hml, hown, hts⟩ (mX4_needTwoCalls hl9 (D := D) (a := a) (cA := cA) (u := u) hv1) (cwV 2 hts gcjX4_151 rfl rfl rfl (by decide +kernel) ⟨Nat.le_of_ble_eq_true rfl, Nat.le_of_ble_eq_true rfl⟩) (gw_preV (q0 := 0) (ci := 4) gX_ok C V [.int p1, .int p2] rfl rfl) rfl rfl hl.1 rfl (lv_room (Nat.le_of_ble_eq_true rfl)) dX4_agree_3 (gkr (gk_le (fun q => in2a (if_f q h))))) (fun k0 H locs ce qe V hat => ?_) (fun k0 H locs V => ?_)
  · have h := if_f k0 h
    exact gx_out htab hlk V hat k0 (in2a h) rfl (gk1 (fun q => k0 ((in2a h).trans q))).1 (gk1 (fun q => k0 ((in2a h).trans q))).2
  have h := if_t k0 h
  refine lv_aload_n hx hb dX4_agree_6 rfl (lv_at hl 0 rfl) ?_
  refine lv_iload_n hx hb dX4_agree_7 rfl (lv_at hl 1 rfl) ?_
  refine lv_iload_n hx hb dX4_agree_8 rfl (lv_at hl 2 rfl) ?_
  refine va_mmin hx hb (hml.trans hl.1.symm) hown (hts _ kt_492) (hts _ kt_493) (hts _ kt_15) (hts _ kt_494) (Nat.le_of_ble_eq_true rfl) (Nat.le_of_ble_eq_true rfl) (Nat.zero_le _) (Nat.zero_le _) dX4_agree_9 ?_
  refine lv_iload_n hx hb dX4_agree_12 rfl (lv_at hl 1 rfl) ?_
  refine lv_iload_n hx hb dX4_agree_13 rfl (lv_at hl 2 rfl) ?_
  refine va_mmax hx hb (hml.trans hl.1.symm) hown (hts _ kt_495) (hts _ kt_496) (hts _ kt_15) (hts _ kt_497) (Nat.le_of_ble_eq_true rfl) (Nat.le_of_ble_eq_true rfl) (Nat.zero_le _) (Nat.zero_le _) dX4_agree_14 ?_
  obtain ⟨v2, hv2, h⟩ := bi_e h
  refine gw_ki V (va_runV (As := [.int (if p2 < p1 then p2 else p1), .int (if p1 < p2 then p2 else p1)]) (rest := []) ⟨hx, hb, hml, hown, hts⟩ (mX4_agreement (D := D) (a := a) (cA := cA) (u := u) hv2) (cwV 2 hts gcjX4_167 rfl rfl rfl (by decide +kernel) ⟨Nat.le_of_ble_eq_true rfl, Nat.le_of_ble_eq_true rfl⟩) (gw_preV (q0 := 0) (ci := 4) gX_ok C V [.int (if p2 < p1 then p2 else p1), .int (if p1 < p2 then p2 else p1)] rfl rfl) rfl rfl hl.1 rfl (lv_room (Nat.le_of_ble_eq_true rfl)) dX4_agree_17 ⟨Nat.zero_le _, Nat.zero_le _⟩) (fun H locs V => ?_)
  exact gx_reti hx hb hr rfl hlk V (in2a h).symm (in2b h) rfl (Nat.zero_le _) (Nat.zero_le _) dX4_agree_20
set_option maxHeartbeats 4000000 in
theorem LX4_callAt_27 {p : Program} {l : Launch} {e : Env} {s : State} {m : MethodId} {below : List Frame} {meth : Method} {c : Code} {args : Array Value} {D : va_G} {a : Nat → Nat} {cA : ClassId} (hl9 : l.stackTraces = false) (B : gw_B p s m args meth c cX4_callAt 3 (some .int) RX4 gT) (htab : ∀ x ∈ c.exceptionTable.toList, False) (C : gw_C D vwCl [(cA, .int)] (cjA a) gX s) {rv : Nat × Int32} {u : g_S} : ∀ (x1 : Int32) (x2 : Int32) (y0 : Int32) (H : Heap) (locs : List Loc) (ls : Array Slot), gw_V D vwCl (cjA a) (cjW a cA) s u H locs → lv_has ls 3 [(0, .ref (a 0)), (1, .int x1), (2, .int x2)] → fcJ_callAt_27 u x1 x2 y0 = some rv → W p l e (rmX4_callAt rv.1) s m args below meth c H locs 0 0 (gx_Ei D vwCl (cjA a) (cjW a cA) below args s (gk rv.1) (6 * gk rv.1) rv.1 rv.2 u) (F0 m 27 ls [.int y0]) := by
  obtain ⟨hx, hb, hml, hown, hts, hr, hlk⟩ := id B
  intro x1 x2 y0 H locs ls V hl h
  unfold fcJ_callAt_27 at h
  obtain ⟨v1, hv1, h⟩ := bi_e h
  refine gy_kv V (vx_runS (As := [.int y0]) (rest := []) ⟨hx, hb, hml, hown, hts⟩ (mX4_needKnown hl9 (D := D) (a := a) (cA := cA) (u := u) hv1) (cwS 1 hts gcjX4_41 rfl rfl rfl (by decide +kernel) ⟨Nat.le_of_ble_eq_true rfl, Nat.le_of_ble_eq_true rfl⟩) (gw_preS gX_ok C V [.int y0]) rfl rfl hl.1 rfl (lv_room (Nat.le_of_ble_eq_true rfl)) dX4_callAt_27 (gkr (gk_le (fun q => in2a (if_f q h))))) (fun k0 H locs ce qe V hat => ?_) (fun k0 H locs V => ?_)
  · have h := if_f k0 h
    exact gx_out htab hlk V hat k0 (in2a h) rfl (gk1 (fun q => k0 ((in2a h).trans q))).1 (gk1 (fun q => k0 ((in2a h).trans q))).2
  have h := if_t k0 h
  refine lv_iload_n hx hb dX4_callAt_30 rfl (lv_at hl 2 rfl) ?_
  by_cases c2 : x2 = (0 : Int32)
  · have h := if_t c2 h
    refine lv_tableIn (off := 29) (tgt := 60) hx hb dX4_callAt_31 (by rw [c2]; decide) (by rw [c2]; decide) (by rw [c2]; rfl) (by decide) ?_
    refine lv_aload_n hx hb dX4_callAt_60 rfl (lv_at hl 0 rfl) ?_
    refine va_get (C := RX4) (T := TX4) (N := 4) (ci := 4) hx hb hts igX4 hown C.1 V.1 0 rfl rfl 2 (by decide) (hts _ kt_158) (fun _ h => h) rfl dX4_callAt_61 ?_
    refine va_get (C := RX0) (T := TX0) (N := 11) (ci := 0) hx hb hts igX0 hown C.1 V.1 3 rfl rfl 7 (by decide) (hts _ kt_91) (fun _ h => h) rfl dX4_callAt_64 ?_
    refine lv_iload_n hx hb dX4_callAt_67 rfl (lv_at hl 1 rfl) ?_
    obtain ⟨i3, h⟩ := ck_e h
    refine va_iald hx hb C.1 V.1 18 0 rfl rfl i3 dX4_callAt_68 ?_
    exact gx_reti hx hb hr rfl hlk V (in2a h).symm (in2b h) rfl (Nat.zero_le _) (Nat.zero_le _) dX4_callAt_69
  have h := if_f c2 h
  by_cases c4 : x2 = (1 : Int32)
  · have h := if_t c4 h
    refine lv_tableIn (off := 39) (tgt := 70) hx hb dX4_callAt_31 (by rw [c4]; decide) (by rw [c4]; decide) (by rw [c4]; rfl) (by decide) ?_
    refine lv_aload_n hx hb dX4_callAt_70 rfl (lv_at hl 0 rfl) ?_
    refine va_get (C := RX4) (T := TX4) (N := 4) (ci := 4) hx hb hts igX4 hown C.1 V.1 0 rfl rfl 2 (by decide) (hts _ kt_158) (fun _ h => h) rfl dX4_callAt_71 ?_
    refine va_get (C := RX0) (T := TX0) (N := 11) (ci := 0) hx hb hts igX0 hown C.1 V.1 3 rfl rfl 8 (by decide) (hts _ kt_93) (fun _ h => h) rfl dX4_callAt_74 ?_
    refine lv_iload_n hx hb dX4_callAt_77 rfl (lv_at hl 1 rfl) ?_
    obtain ⟨i5, h⟩ := ck_e h
    refine va_iald hx hb C.1 V.1 19 0 rfl rfl i5 dX4_callAt_78 ?_
    exact gx_reti hx hb hr rfl hlk V (in2a h).symm (in2b h) rfl (Nat.zero_le _) (Nat.zero_le _) dX4_callAt_79
  have h := if_f c4 h
  by_cases c6 : x2 = (2 : Int32)
  · have h := if_t c6 h
    refine lv_tableIn (off := 49) (tgt := 80) hx hb dX4_callAt_31 (by rw [c6]; decide) (by rw [c6]; decide) (by rw [c6]; rfl) (by decide) ?_
    refine lv_aload_n hx hb dX4_callAt_80 rfl (lv_at hl 0 rfl) ?_
    refine va_get (C := RX4) (T := TX4) (N := 4) (ci := 4) hx hb hts igX4 hown C.1 V.1 0 rfl rfl 2 (by decide) (hts _ kt_158) (fun _ h => h) rfl dX4_callAt_81 ?_
    refine va_get (C := RX0) (T := TX0) (N := 11) (ci := 0) hx hb hts igX0 hown C.1 V.1 3 rfl rfl 10 (by decide) (hts _ kt_97) (fun _ h => h) rfl dX4_callAt_84 ?_
    refine lv_iload_n hx hb dX4_callAt_87 rfl (lv_at hl 1 rfl) ?_
    obtain ⟨i7, h⟩ := ck_e h
    refine va_iald hx hb C.1 V.1 21 0 rfl rfl i7 dX4_callAt_88 ?_
    exact gx_reti hx hb hr rfl hlk V (in2a h).symm (in2b h) rfl (Nat.zero_le _) (Nat.zero_le _) dX4_callAt_89
  have h := if_f c6 h
  by_cases c8 : x2 = (3 : Int32)
  · have h := if_t c8 h
    refine lv_tableIn (off := 59) (tgt := 90) hx hb dX4_callAt_31 (by rw [c8]; decide) (by rw [c8]; decide) (by rw [c8]; rfl) (by decide) ?_
    refine lv_aload_n hx hb dX4_callAt_90 rfl (lv_at hl 0 rfl) ?_
    refine va_get (C := RX4) (T := TX4) (N := 4) (ci := 4) hx hb hts igX4 hown C.1 V.1 0 rfl rfl 2 (by decide) (hts _ kt_158) (fun _ h => h) rfl dX4_callAt_91 ?_
    refine va_get (C := RX0) (T := TX0) (N := 11) (ci := 0) hx hb hts igX0 hown C.1 V.1 3 rfl rfl 2 (by decide) (hts _ kt_81) (fun _ h => h) rfl dX4_callAt_94 ?_
    refine lv_iload_n hx hb dX4_callAt_97 rfl (lv_at hl 1 rfl) ?_
    obtain ⟨i9, h⟩ := ck_e h
    refine va_iald hx hb C.1 V.1 13 0 rfl rfl i9 dX4_callAt_98 ?_
    exact gx_reti hx hb hr rfl hlk V (in2a h).symm (in2b h) rfl (Nat.zero_le _) (Nat.zero_le _) dX4_callAt_99
  have h := if_f c8 h
  refine lv_tableOut (tgt := 100) hx hb dX4_callAt_31 (by have := lv_neT c2 (a := 0) (by decide); have := lv_neT c4 (a := 1) (by decide); have := lv_neT c6 (a := 2) (by decide); have := lv_neT c8 (a := 3) (by decide); omega) (by decide) ?_
  refine lv_aload_n hx hb dX4_callAt_100 rfl (lv_at hl 0 rfl) ?_
  refine va_get (C := RX4) (T := TX4) (N := 4) (ci := 4) hx hb hts igX4 hown C.1 V.1 0 rfl rfl 2 (by decide) (hts _ kt_158) (fun _ h => h) rfl dX4_callAt_101 ?_
  refine va_get (C := RX0) (T := TX0) (N := 11) (ci := 0) hx hb hts igX0 hown C.1 V.1 3 rfl rfl 9 (by decide) (hts _ kt_95) (fun _ h => h) rfl dX4_callAt_104 ?_
  refine lv_iload_n hx hb dX4_callAt_107 rfl (lv_at hl 1 rfl) ?_
  obtain ⟨i10, h⟩ := ck_e h
  refine va_iald hx hb C.1 V.1 20 0 rfl rfl i10 dX4_callAt_108 ?_
  exact gx_reti hx hb hr rfl hlk V (in2a h).symm (in2b h) rfl (Nat.zero_le _) (Nat.zero_le _) dX4_callAt_109
set_option maxHeartbeats 4000000 in
theorem mX4_callAt {l : Launch} (hl9 : l.stackTraces = false) {D : va_G} {a : Nat → Nat} {cA : ClassId} {sz : Nat} {u : g_S} {p1 : Int32} {p2 : Int32} {rv : Nat × Int32} (h : fcJ_callAt u p1 p2 = some rv) : gx_Mi D vwCl [(cA, .int)] (cjA a) gX (cjW a cA) l yX4_callAt wxX4_callAt (rmX4_callAt rv.1) (gk rv.1) (6 * gk rv.1) sz u [.ref (a 0), .int p1, .int p2] rv.1 rv.2 u := by
  refine gx_Mof (Qc := fun z => va_Qi (gx_Pi rv.1 rv.2 u) (gw_W D vwCl (cjW a cA)) (rg (cjA a) z)) (XC := fun z => vx_X (gx_Px rv.1 u) (gx_W D vwCl (cjW a cA) rv.1) (rg (cjA a) z)) (cc := cX4_callAt) (maxL := 3) (ret := (some .int)) (by decide) rfl ?_
  intro p e s m below meth c B htab C V
  obtain ⟨hx, hb, hml, hown, hts, hr, hlk⟩ := id B
  have hl := lv_entry ([.ref (a 0), .int p1, .int p2]) (n := 3) (Nat.le_of_ble_eq_true rfl)
  rw [lg_entry_eq]
  generalize (lg_sl ([.ref (a 0), .int p1, .int p2]) ++ List.replicate (3 - (lg_sl ([.ref (a 0), .int p1, .int p2])).length) Slot.unset).toArray = ls at hl ⊢
  have hl : lv_has ls 3 [(0, .ref (a 0)), (1, .int p1), (2, .int p2)] := hl
  unfold fcJ_callAt at h
  refine lv_iload_n hx hb dX4_callAt_0 rfl (lv_at hl 1 rfl) ?_
  refine lv_aload_n hx hb dX4_callAt_1 rfl (lv_at hl 0 rfl) ?_
  refine va_get (C := RX4) (T := TX4) (N := 4) (ci := 4) hx hb hts igX4 hown C.1 V.1 0 rfl rfl 2 (by decide) (hts _ kt_158) (fun _ h => h) rfl dX4_callAt_2 ?_
  refine va_get (C := RX0) (T := TX0) (N := 11) (ci := 0) hx hb hts igX0 hown C.1 V.1 3 rfl rfl 0 (by decide) (hts _ kt_77) (fun _ h => h) rfl dX4_callAt_5 ?_
  obtain ⟨v1, hv1, h⟩ := bi_e h
  refine gw_ki V (va_runS (As := [.int p1, .int (u.1 0)]) (rest := []) ⟨hx, hb, hml, hown, hts⟩ (mX4_isBelow (D := D) (a := a) (cA := cA) (u := u) hv1) (cwS 2 hts gcjX4_37 rfl rfl rfl (by decide +kernel) ⟨Nat.le_of_ble_eq_true rfl, Nat.le_of_ble_eq_true rfl⟩) (gw_preS gX_ok C V [.int p1, .int (u.1 0)]) rfl rfl hl.1 rfl (lv_room (Nat.le_of_ble_eq_true rfl)) dX4_callAt_8 ⟨Nat.zero_le _, Nat.zero_le _⟩) (fun H locs V => ?_)
  refine lv_if_eq (tgt := 26) hx hb dX4_callAt_11 (by decide) (fun c2 => ?_) (fun c2 => ?_)
  · have h := if_t c2 h
    refine lv_iconst (v := (0 : Int32)) hx hb dX4_callAt_26 (by decide) ?_
    exact LX4_callAt_27 hl9 B htab C p1 p2 (0 : Int32) _ _ _ V (lv_sub hl [0, 1, 2] rfl) h
  · have h := if_f c2 h
    refine lv_iload_n hx hb dX4_callAt_14 rfl (lv_at hl 2 rfl) ?_
    refine lv_iconst (v := (5 : Int32)) hx hb dX4_callAt_15 (by decide) ?_
    obtain ⟨v3, hv3, h⟩ := bi_e h
    refine gw_ki V (va_runS (As := [.int p2, .int (5 : Int32)]) (rest := []) ⟨hx, hb, hml, hown, hts⟩ (mX4_isBelow (D := D) (a := a) (cA := cA) (u := u) hv3) (cwS 2 hts gcjX4_37 rfl rfl rfl (by decide +kernel) ⟨Nat.le_of_ble_eq_true rfl, Nat.le_of_ble_eq_true rfl⟩) (gw_preS gX_ok C V [.int p2, .int (5 : Int32)]) rfl rfl hl.1 rfl (lv_room (Nat.le_of_ble_eq_true rfl)) dX4_callAt_16 ⟨Nat.zero_le _, Nat.zero_le _⟩) (fun H locs V => ?_)
    refine lv_if_eq (tgt := 26) hx hb dX4_callAt_19 (by decide) (fun c4 => ?_) (fun c4 => ?_)
    · have h := if_t c4 h
      refine lv_iconst (v := (0 : Int32)) hx hb dX4_callAt_26 (by decide) ?_
      exact LX4_callAt_27 hl9 B htab C p1 p2 (0 : Int32) _ _ _ V (lv_sub hl [0, 1, 2] rfl) h
    · have h := if_f c4 h
      refine lv_iconst (v := (1 : Int32)) hx hb dX4_callAt_22 (by decide) ?_
      refine lv_goto (tgt := 27) hx hb dX4_callAt_23 (by decide) ?_
      exact LX4_callAt_27 hl9 B htab C p1 p2 (1 : Int32) _ _ _ V (lv_sub hl [0, 1, 2] rfl) h
