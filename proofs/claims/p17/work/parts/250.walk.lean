set_option maxHeartbeats 4000000 in
theorem LX0_memberOf_5 {p : Program} {l : Launch} {e : Env} {s : State} {m : MethodId} {below : List Frame} {meth : Method} {c : Code} {args : Array Value} {D : va_G} {a : Nat → Nat} {cA : ClassId} (B : gw_B p s m args meth c cX0_memberOf 5 (some .int) RX0 gT) (C : gw_C D vwCl [(cA, .int)] (cjA a) gX s) {rv : Int32} {u : g_S} : ∀ (n : Nat) (x1 : Int32) (x2 : Int32) (x3 : Int32) (x4 : Int32) (H : Heap) (locs : List Loc) (ls : Array Slot), gw_V D vwCl (cjA a) (cjW a cA) s u H locs → lv_has ls 5 [(0, .ref (a 3)), (1, .int x1), (2, .int x2), (3, .int x3), (4, .int x4)] → fcA_memberOf_5 u n x1 x2 x3 x4 = some rv → W p l e rmX0_memberOf s m args below meth c H locs 0 0 (gw_Ei D vwCl (cjA a) (cjW a cA) below args s rv u) (F0 m 5 ls []) := by
  obtain ⟨hx, hb, hml, hown, hts, hr, hlk⟩ := id B
  intro n
  induction n with
  | zero =>
    intro x1 x2 x3 x4 H locs ls V hl h
    cases h
  | succ n ih =>
    intro x1 x2 x3 x4 H locs ls V hl h
    rw [fcA_memberOf_5_s] at h
    refine lv_iload hx hb dX0_memberOf_5 (lv_at hl 4 rfl) ?_
    refine lv_aload_n hx hb dX0_memberOf_7 rfl (lv_at hl 0 rfl) ?_
    refine va_get (C := RX0) (T := TX0) (N := 11) (ci := 0) hx hb hts igX0 hown C.1 V.1 3 rfl rfl 0 (by decide) (hts _ kt_76) (fun _ h => h) rfl dX0_memberOf_8 ?_
    refine lv_icmp_ge (tgt := 42) hx hb dX0_memberOf_11 (by decide) (fun c1 => ?_) (fun c1 => ?_)
    · have h := if_t c1 h
      refine lv_iconst (v := (-1 : Int32)) hx hb dX0_memberOf_42 (by decide) ?_
      exact gw_reti hx hb hr rfl hlk V (Option.some.inj h) rfl dX0_memberOf_43
    · have h := if_f c1 h
      refine lv_aload_n hx hb dX0_memberOf_14 rfl (lv_at hl 0 rfl) ?_
      refine va_get (C := RX0) (T := TX0) (N := 11) (ci := 0) hx hb hts igX0 hown C.1 V.1 3 rfl rfl 7 (by decide) (hts _ kt_90) (fun _ h => h) rfl dX0_memberOf_15 ?_
      refine lv_iload hx hb dX0_memberOf_18 (lv_at hl 4 rfl) ?_
      obtain ⟨i2, h⟩ := ck_e h
      refine va_iald hx hb C.1 V.1 18 0 rfl rfl i2 dX0_memberOf_20 ?_
      refine lv_iload_n hx hb dX0_memberOf_21 rfl (lv_at hl 1 rfl) ?_
      refine lv_icmp_ne (tgt := 36) hx hb dX0_memberOf_22 (by decide) (fun c3 => ?_) (fun c3 => ?_)
      · have h := if_t c3 h
        refine lv_iinc (v := (x4 + (1 : Int32))) (lv' := [(4, .int (x4 + (1 : Int32))), (0, .ref (a 3)), (1, .int x1), (2, .int x2), (3, .int x3)]) hx hb dX0_memberOf_36 hl (k := 4) rfl rfl (by decide) rfl (fun ls hl => ?_)
        refine lv_goto (tgt := 5) hx hb dX0_memberOf_39 (by decide) ?_
        exact ih x1 x2 x3 (x4 + (1 : Int32)) _ _ _ V (lv_sub hl [1, 2, 3, 4, 0] rfl) h
      · have h := if_nn c3 h
        refine lv_iload_n hx hb dX0_memberOf_25 rfl (lv_at hl 3 rfl) ?_
        refine lv_iload_n hx hb dX0_memberOf_26 rfl (lv_at hl 2 rfl) ?_
        refine lv_icmp_ne (tgt := 33) hx hb dX0_memberOf_27 (by decide) (fun c4 => ?_) (fun c4 => ?_)
        · have h := if_t c4 h
          refine lv_iinc (v := (x3 + (1 : Int32))) (lv' := [(3, .int (x3 + (1 : Int32))), (0, .ref (a 3)), (1, .int x1), (2, .int x2), (4, .int x4)]) hx hb dX0_memberOf_33 hl (k := 3) rfl rfl (by decide) rfl (fun ls hl => ?_)
          refine lv_iinc (v := (x4 + (1 : Int32))) (lv' := [(4, .int (x4 + (1 : Int32))), (3, .int (x3 + (1 : Int32))), (0, .ref (a 3)), (1, .int x1), (2, .int x2)]) hx hb dX0_memberOf_36 hl (k := 4) rfl rfl (by decide) rfl (fun ls hl => ?_)
          refine lv_goto (tgt := 5) hx hb dX0_memberOf_39 (by decide) ?_
          exact ih x1 x2 (x3 + (1 : Int32)) (x4 + (1 : Int32)) _ _ _ V (lv_sub hl [2, 3, 4, 1, 0] rfl) h
        · have h := if_nn c4 h
          refine lv_iload hx hb dX0_memberOf_30 (lv_at hl 4 rfl) ?_
          exact gw_reti hx hb hr rfl hlk V (Option.some.inj h) rfl dX0_memberOf_32
set_option maxHeartbeats 4000000 in
theorem mX0_memberOf {l : Launch} {D : va_G} {a : Nat → Nat} {cA : ClassId} {sz : Nat} {u : g_S} {p1 : Int32} {p2 : Int32} {rv : Int32} (h : fcA_memberOf u p1 p2 = some rv) : gw_Mi D vwCl [(cA, .int)] (cjA a) gX (cjW a cA) l yX0_memberOf wxX0_memberOf rmX0_memberOf sz u [.ref (a 3), .int p1, .int p2] rv u := by
  refine gw_Mof (Qc := fun z => va_Qi (gw_Pi rv u) (gw_W D vwCl (cjW a cA)) (rg (cjA a) z)) (cc := cX0_memberOf) (maxL := 5) (ret := (some .int)) (by decide) rfl ?_
  intro p e s m below meth c B C V
  obtain ⟨hx, hb, hml, hown, hts, hr, hlk⟩ := id B
  have hl := lv_entry ([.ref (a 3), .int p1, .int p2]) (n := 5) (Nat.le_of_ble_eq_true rfl)
  rw [lg_entry_eq]
  generalize (lg_sl ([.ref (a 3), .int p1, .int p2]) ++ List.replicate (5 - (lg_sl ([.ref (a 3), .int p1, .int p2])).length) Slot.unset).toArray = ls at hl ⊢
  have hl : lv_has ls 5 [(0, .ref (a 3)), (1, .int p1), (2, .int p2)] := hl
  unfold fcA_memberOf at h
  refine lv_iconst (v := (0 : Int32)) hx hb dX0_memberOf_0 (by decide) ?_
  refine lv_istore_n (lv' := [(3, .int (0 : Int32)), (0, .ref (a 3)), (1, .int p1), (2, .int p2)]) hx hb dX0_memberOf_1 rfl hl (by decide) rfl (fun ls hl => ?_)
  refine lv_iconst (v := (0 : Int32)) hx hb dX0_memberOf_2 (by decide) ?_
  refine lv_istore (lv' := [(4, .int (0 : Int32)), (3, .int (0 : Int32)), (0, .ref (a 3)), (1, .int p1), (2, .int p2)]) hx hb dX0_memberOf_3 hl (by decide) rfl (fun ls hl => ?_)
  exact LX0_memberOf_5 B C 200 p1 p2 (0 : Int32) (0 : Int32) _ _ _ V (lv_sub hl [2, 3, 4, 1, 0] rfl) h
set_option maxHeartbeats 4000000 in
theorem mX4_member {l : Launch} (hl9 : l.stackTraces = false) {D : va_G} {a : Nat → Nat} {cA : ClassId} {sz : Nat} {u : g_S} {p1 : Int32} {p2 : Int32} {rv : Nat × Int32} (h : fcJ_member u p1 p2 = some rv) : gx_Mi D vwCl [(cA, .int)] (cjA a) gX (cjW a cA) l yX4_member wxX4_member (rmX4_member rv.1) (gk rv.1) (6 * gk rv.1) sz u [.ref (a 0), .int p1, .int p2] rv.1 rv.2 u := by
  refine gx_Mof (Qc := fun z => va_Qi (gx_Pi rv.1 rv.2 u) (gw_W D vwCl (cjW a cA)) (rg (cjA a) z)) (XC := fun z => vx_X (gx_Px rv.1 u) (gx_W D vwCl (cjW a cA) rv.1) (rg (cjA a) z)) (cc := cX4_member) (maxL := 4) (ret := (some .int)) (by decide) rfl ?_
  intro p e s m below meth c B htab C V
  obtain ⟨hx, hb, hml, hown, hts, hr, hlk⟩ := id B
  have hl := lv_entry ([.ref (a 0), .int p1, .int p2]) (n := 4) (Nat.le_of_ble_eq_true rfl)
  rw [lg_entry_eq]
  generalize (lg_sl ([.ref (a 0), .int p1, .int p2]) ++ List.replicate (4 - (lg_sl ([.ref (a 0), .int p1, .int p2])).length) Slot.unset).toArray = ls at hl ⊢
  have hl : lv_has ls 4 [(0, .ref (a 0)), (1, .int p1), (2, .int p2)] := hl
  unfold fcJ_member at h
  refine lv_iload_n hx hb dX4_member_0 rfl (lv_at hl 1 rfl) ?_
  refine lv_aload_n hx hb dX4_member_1 rfl (lv_at hl 0 rfl) ?_
  refine va_get (C := RX4) (T := TX4) (N := 4) (ci := 4) hx hb hts igX4 hown C.1 V.1 0 rfl rfl 3 (by decide) (hts _ kt_159) (fun _ h => h) rfl dX4_member_2 ?_
  refine va_get (C := RX1) (T := TX1) (N := 7) (ci := 1) hx hb hts igX1 hown C.1 V.1 4 rfl rfl 0 (by decide) (hts _ kt_128) (fun _ h => h) rfl dX4_member_5 ?_
  obtain ⟨v1, hv1, h⟩ := bi_e h
  refine gw_ki V (va_runS (As := [.int p1, .int (u.1 1)]) (rest := []) ⟨hx, hb, hml, hown, hts⟩ (mX4_isBelow (D := D) (a := a) (cA := cA) (u := u) hv1) (cwS 2 hts gcjX4_37 rfl rfl rfl (by decide +kernel) ⟨Nat.le_of_ble_eq_true rfl, Nat.le_of_ble_eq_true rfl⟩) (gw_preS gX_ok C V [.int p1, .int (u.1 1)]) rfl rfl hl.1 rfl (lv_room (Nat.le_of_ble_eq_true rfl)) dX4_member_8 ⟨Nat.zero_le _, Nat.zero_le _⟩) (fun H locs V => ?_)
  obtain ⟨v2, hv2, h⟩ := bi_e h
  refine gy_kv V (vx_runS (As := [.int v1]) (rest := []) ⟨hx, hb, hml, hown, hts⟩ (mX4_needKnown hl9 (D := D) (a := a) (cA := cA) (u := u) hv2) (cwS 1 hts gcjX4_41 rfl rfl rfl (by decide +kernel) ⟨Nat.le_of_ble_eq_true rfl, Nat.le_of_ble_eq_true rfl⟩) (gw_preS gX_ok C V [.int v1]) rfl rfl hl.1 rfl (lv_room (Nat.le_of_ble_eq_true rfl)) dX4_member_11 (gkr (gk_le (fun q => in2a (if_f q h))))) (fun k0 H locs ce qe V hat => ?_) (fun k0 H locs V => ?_)
  · have h := if_f k0 h
    exact gx_out htab hlk V hat k0 (in2a h) rfl (gk1 (fun q => k0 ((in2a h).trans q))).1 (gk1 (fun q => k0 ((in2a h).trans q))).2
  have h := if_t k0 h
  refine lv_aload_n hx hb dX4_member_14 rfl (lv_at hl 0 rfl) ?_
  refine va_get (C := RX4) (T := TX4) (N := 4) (ci := 4) hx hb hts igX4 hown C.1 V.1 0 rfl rfl 2 (by decide) (hts _ kt_158) (fun _ h => h) rfl dX4_member_15 ?_
  refine lv_iload_n hx hb dX4_member_18 rfl (lv_at hl 1 rfl) ?_
  refine lv_iload_n hx hb dX4_member_19 rfl (lv_at hl 2 rfl) ?_
  obtain ⟨v3, hv3, h⟩ := bi_e h
  refine gw_ki V (va_runV (As := [.int p1, .int p2]) (rest := []) ⟨hx, hb, hml, hown, hts⟩ (mX0_memberOf (D := D) (a := a) (cA := cA) (u := u) hv3) (cwV 2 hts gcjX4_180 rfl rfl rfl (by decide +kernel) ⟨Nat.le_of_ble_eq_true rfl, Nat.le_of_ble_eq_true rfl⟩) (gw_preV (q0 := 3) (ci := 0) gX_ok C V [.int p1, .int p2] rfl rfl) rfl rfl hl.1 rfl (lv_room (Nat.le_of_ble_eq_true rfl)) dX4_member_20 ⟨Nat.zero_le _, Nat.zero_le _⟩) (fun H locs V => ?_)
  refine lv_istore_n (lv' := [(3, .int v3), (0, .ref (a 0)), (1, .int p1), (2, .int p2)]) hx hb dX4_member_23 rfl hl (by decide) rfl (fun ls hl => ?_)
  refine lv_iload_n hx hb dX4_member_24 rfl (lv_at hl 0 rfl) ?_
  refine lv_iconst (v := (-1 : Int32)) hx hb dX4_member_25 (by decide) ?_
  refine lv_icmp_eq (tgt := 33) hx hb dX4_member_26 (by decide) (fun c4 => ?_) (fun c4 => ?_)
  · have h := if_t c4 h
    refine lv_iconst (v := (0 : Int32)) hx hb dX4_member_33 (by decide) ?_
    obtain ⟨v5, hv5, h⟩ := bi_e h
    refine gy_kv V (vx_runS (As := [.int (0 : Int32)]) (rest := []) ⟨hx, hb, hml, hown, hts⟩ (mX4_needRange hl9 (D := D) (a := a) (cA := cA) (u := u) hv5) (cwS 1 hts gcjX4_45 rfl rfl rfl (by decide +kernel) ⟨Nat.le_of_ble_eq_true rfl, Nat.le_of_ble_eq_true rfl⟩) (gw_preS gX_ok C V [.int (0 : Int32)]) rfl rfl hl.1 rfl (lv_room (Nat.le_of_ble_eq_true rfl)) dX4_member_34 (gkr (gk_le (fun q => in2a (if_f q h))))) (fun k0 H locs ce qe V hat => ?_) (fun k0 H locs V => ?_)
    · have h := if_f k0 h
      exact gx_out htab hlk V hat k0 (in2a h) rfl (gk1 (fun q => k0 ((in2a h).trans q))).1 (gk1 (fun q => k0 ((in2a h).trans q))).2
    have h := if_t k0 h
    refine lv_iload_n hx hb dX4_member_37 rfl (lv_at hl 0 rfl) ?_
    exact gx_reti hx hb hr rfl hlk V (in2a h).symm (in2b h) rfl (Nat.zero_le _) (Nat.zero_le _) dX4_member_38
  · have h := if_f c4 h
    refine lv_iconst (v := (1 : Int32)) hx hb dX4_member_29 (by decide) ?_
    refine lv_goto (tgt := 34) hx hb dX4_member_30 (by decide) ?_
    obtain ⟨v6, hv6, h⟩ := bi_e h
    refine gy_kv V (vx_runS (As := [.int (1 : Int32)]) (rest := []) ⟨hx, hb, hml, hown, hts⟩ (mX4_needRange hl9 (D := D) (a := a) (cA := cA) (u := u) hv6) (cwS 1 hts gcjX4_45 rfl rfl rfl (by decide +kernel) ⟨Nat.le_of_ble_eq_true rfl, Nat.le_of_ble_eq_true rfl⟩) (gw_preS gX_ok C V [.int (1 : Int32)]) rfl rfl hl.1 rfl (lv_room (Nat.le_of_ble_eq_true rfl)) dX4_member_34 (gkr (gk_le (fun q => in2a (if_f q h))))) (fun k0 H locs ce qe V hat => ?_) (fun k0 H locs V => ?_)
    · have h := if_f k0 h
      exact gx_out htab hlk V hat k0 (in2a h) rfl (gk1 (fun q => k0 ((in2a h).trans q))).1 (gk1 (fun q => k0 ((in2a h).trans q))).2
    have h := if_t k0 h
    refine lv_iload_n hx hb dX4_member_37 rfl (lv_at hl 0 rfl) ?_
    exact gx_reti hx hb hr rfl hlk V (in2a h).symm (in2b h) rfl (Nat.zero_le _) (Nat.zero_le _) dX4_member_38
set_option maxHeartbeats 4000000 in
theorem LX1_countOpen_4 {p : Program} {l : Launch} {e : Env} {s : State} {m : MethodId} {below : List Frame} {meth : Method} {c : Code} {args : Array Value} {D : va_G} {a : Nat → Nat} {cA : ClassId} (B : gw_B p s m args meth c cX1_countOpen 3 (some .int) RX1 gT) (C : gw_C D vwCl [(cA, .int)] (cjA a) gX s) {rv : Int32} {u : g_S} : ∀ (n : Nat) (x1 : Int32) (x2 : Int32) (H : Heap) (locs : List Loc) (ls : Array Slot), gw_V D vwCl (cjA a) (cjW a cA) s u H locs → lv_has ls 3 [(0, .ref (a 4)), (1, .int x1), (2, .int x2)] → fcE_countOpen_4 u n x1 x2 = some rv → W p l e rmX1_countOpen s m args below meth c H locs 0 0 (gw_Ei D vwCl (cjA a) (cjW a cA) below args s rv u) (F0 m 4 ls []) := by
  obtain ⟨hx, hb, hml, hown, hts, hr, hlk⟩ := id B
  intro n
  induction n with
  | zero =>
    intro x1 x2 H locs ls V hl h
    cases h
  | succ n ih =>
    intro x1 x2 H locs ls V hl h
    rw [fcE_countOpen_4_s] at h
    refine lv_iload_n hx hb dX1_countOpen_4 rfl (lv_at hl 2 rfl) ?_
    refine lv_aload_n hx hb dX1_countOpen_5 rfl (lv_at hl 0 rfl) ?_
    refine va_get (C := RX1) (T := TX1) (N := 7) (ci := 1) hx hb hts igX1 hown C.1 V.1 4 rfl rfl 0 (by decide) (hts _ kt_127) (fun _ h => h) rfl dX1_countOpen_6 ?_
    refine lv_icmp_ge (tgt := 30) hx hb dX1_countOpen_9 (by decide) (fun c1 => ?_) (fun c1 => ?_)
    · have h := if_t c1 h
      refine lv_iload_n hx hb dX1_countOpen_30 rfl (lv_at hl 1 rfl) ?_
      exact gw_reti hx hb hr rfl hlk V (Option.some.inj h) rfl dX1_countOpen_31
    · have h := if_f c1 h
      refine lv_aload_n hx hb dX1_countOpen_12 rfl (lv_at hl 0 rfl) ?_
      refine va_get (C := RX1) (T := TX1) (N := 7) (ci := 1) hx hb hts igX1 hown C.1 V.1 4 rfl rfl 1 (by decide) (hts _ kt_129) (fun _ h => h) rfl dX1_countOpen_13 ?_
      refine lv_iload_n hx hb dX1_countOpen_16 rfl (lv_at hl 2 rfl) ?_
      obtain ⟨i2, h⟩ := ck_e h
      refine va_iald hx hb C.1 V.1 22 0 rfl rfl i2 dX1_countOpen_17 ?_
      refine lv_if_ne (tgt := 24) hx hb dX1_countOpen_18 (by decide) (fun c3 => ?_) (fun c3 => ?_)
      · have h := if_t c3 h
        refine lv_iinc (v := (x2 + (1 : Int32))) (lv' := [(2, .int (x2 + (1 : Int32))), (0, .ref (a 4)), (1, .int x1)]) hx hb dX1_countOpen_24 hl (k := 2) rfl rfl (by decide) rfl (fun ls hl => ?_)
        refine lv_goto (tgt := 4) hx hb dX1_countOpen_27 (by decide) ?_
        exact ih x1 (x2 + (1 : Int32)) _ _ _ V (lv_sub hl [1, 2, 0] rfl) h
      · have h := if_nn c3 h
        refine lv_iinc (v := (x1 + (1 : Int32))) (lv' := [(1, .int (x1 + (1 : Int32))), (0, .ref (a 4)), (2, .int x2)]) hx hb dX1_countOpen_21 hl (k := 1) rfl rfl (by decide) rfl (fun ls hl => ?_)
        refine lv_iinc (v := (x2 + (1 : Int32))) (lv' := [(2, .int (x2 + (1 : Int32))), (1, .int (x1 + (1 : Int32))), (0, .ref (a 4))]) hx hb dX1_countOpen_24 hl (k := 2) rfl rfl (by decide) rfl (fun ls hl => ?_)
        refine lv_goto (tgt := 4) hx hb dX1_countOpen_27 (by decide) ?_
        exact ih (x1 + (1 : Int32)) (x2 + (1 : Int32)) _ _ _ V (lv_sub hl [2, 1, 0] rfl) h
set_option maxHeartbeats 4000000 in
theorem mX1_countOpen {l : Launch} {D : va_G} {a : Nat → Nat} {cA : ClassId} {sz : Nat} {u : g_S}  {rv : Int32} (h : fcE_countOpen u = some rv) : gw_Mi D vwCl [(cA, .int)] (cjA a) gX (cjW a cA) l yX1_countOpen wxX1_countOpen rmX1_countOpen sz u [.ref (a 4)] rv u := by
  refine gw_Mof (Qc := fun z => va_Qi (gw_Pi rv u) (gw_W D vwCl (cjW a cA)) (rg (cjA a) z)) (cc := cX1_countOpen) (maxL := 3) (ret := (some .int)) (by decide) rfl ?_
  intro p e s m below meth c B C V
  obtain ⟨hx, hb, hml, hown, hts, hr, hlk⟩ := id B
  have hl := lv_entry ([.ref (a 4)]) (n := 3) (Nat.le_of_ble_eq_true rfl)
  rw [lg_entry_eq]
  generalize (lg_sl ([.ref (a 4)]) ++ List.replicate (3 - (lg_sl ([.ref (a 4)])).length) Slot.unset).toArray = ls at hl ⊢
  have hl : lv_has ls 3 [(0, .ref (a 4))] := hl
  unfold fcE_countOpen at h
  refine lv_iconst (v := (0 : Int32)) hx hb dX1_countOpen_0 (by decide) ?_
  refine lv_istore_n (lv' := [(1, .int (0 : Int32)), (0, .ref (a 4))]) hx hb dX1_countOpen_1 rfl hl (by decide) rfl (fun ls hl => ?_)
  refine lv_iconst (v := (0 : Int32)) hx hb dX1_countOpen_2 (by decide) ?_
  refine lv_istore_n (lv' := [(2, .int (0 : Int32)), (1, .int (0 : Int32)), (0, .ref (a 4))]) hx hb dX1_countOpen_3 rfl hl (by decide) rfl (fun ls hl => ?_)
  exact LX1_countOpen_4 B C 200 (0 : Int32) (0 : Int32) _ _ _ V (lv_sub hl [2, 1, 0] rfl) h
set_option maxHeartbeats 4000000 in
theorem LX0_countHoaxes_4 {p : Program} {l : Launch} {e : Env} {s : State} {m : MethodId} {below : List Frame} {meth : Method} {c : Code} {args : Array Value} {D : va_G} {a : Nat → Nat} {cA : ClassId} (B : gw_B p s m args meth c cX0_countHoaxes 3 (some .int) RX0 gT) (C : gw_C D vwCl [(cA, .int)] (cjA a) gX s) {rv : Int32} {u : g_S} : ∀ (n : Nat) (x1 : Int32) (x2 : Int32) (H : Heap) (locs : List Loc) (ls : Array Slot), gw_V D vwCl (cjA a) (cjW a cA) s u H locs → lv_has ls 3 [(0, .ref (a 3)), (1, .int x1), (2, .int x2)] → fcA_countHoaxes_4 u n x1 x2 = some rv → W p l e rmX0_countHoaxes s m args below meth c H locs 0 0 (gw_Ei D vwCl (cjA a) (cjW a cA) below args s rv u) (F0 m 4 ls []) := by
  obtain ⟨hx, hb, hml, hown, hts, hr, hlk⟩ := id B
  intro n
  induction n with
  | zero =>
    intro x1 x2 H locs ls V hl h
    cases h
  | succ n ih =>
    intro x1 x2 H locs ls V hl h
    rw [fcA_countHoaxes_4_s] at h
    refine lv_iload_n hx hb dX0_countHoaxes_4 rfl (lv_at hl 2 rfl) ?_
    refine lv_aload_n hx hb dX0_countHoaxes_5 rfl (lv_at hl 0 rfl) ?_
    refine va_get (C := RX0) (T := TX0) (N := 11) (ci := 0) hx hb hts igX0 hown C.1 V.1 3 rfl rfl 0 (by decide) (hts _ kt_76) (fun _ h => h) rfl dX0_countHoaxes_6 ?_
    refine lv_icmp_ge (tgt := 29) hx hb dX0_countHoaxes_9 (by decide) (fun c1 => ?_) (fun c1 => ?_)
    · have h := if_t c1 h
      refine lv_iload_n hx hb dX0_countHoaxes_29 rfl (lv_at hl 1 rfl) ?_
      exact gw_reti hx hb hr rfl hlk V (Option.some.inj h) rfl dX0_countHoaxes_30
    · have h := if_f c1 h
      refine lv_aload_n hx hb dX0_countHoaxes_12 rfl (lv_at hl 0 rfl) ?_
      refine lv_iload_n hx hb dX0_countHoaxes_13 rfl (lv_at hl 2 rfl) ?_
      obtain ⟨v2, hv2, h⟩ := bi_e h
      refine gw_ki V (va_runV (As := [.int x2]) (rest := []) ⟨hx, hb, hml, hown, hts⟩ (mX0_isHoax (D := D) (a := a) (cA := cA) (u := u) hv2) (cwV 1 hts gcjX0_50 rfl rfl rfl (by decide +kernel) ⟨Nat.le_of_ble_eq_true rfl, Nat.le_of_ble_eq_true rfl⟩) (gw_preV (q0 := 3) (ci := 0) gX_ok C V [.int x2] rfl rfl) rfl rfl hl.1 rfl (lv_room (Nat.le_of_ble_eq_true rfl)) dX0_countHoaxes_14 ⟨Nat.zero_le _, Nat.zero_le _⟩) (fun H locs V => ?_)
      refine lv_if_eq (tgt := 23) hx hb dX0_countHoaxes_17 (by decide) (fun c3 => ?_) (fun c3 => ?_)
      · have h := if_t c3 h
        refine lv_iinc (v := (x2 + (1 : Int32))) (lv' := [(2, .int (x2 + (1 : Int32))), (0, .ref (a 3)), (1, .int x1)]) hx hb dX0_countHoaxes_23 hl (k := 2) rfl rfl (by decide) rfl (fun ls hl => ?_)
        refine lv_goto (tgt := 4) hx hb dX0_countHoaxes_26 (by decide) ?_
        exact ih x1 (x2 + (1 : Int32)) _ _ _ V (lv_sub hl [1, 2, 0] rfl) h
      · have h := if_f c3 h
        refine lv_iinc (v := (x1 + (1 : Int32))) (lv' := [(1, .int (x1 + (1 : Int32))), (0, .ref (a 3)), (2, .int x2)]) hx hb dX0_countHoaxes_20 hl (k := 1) rfl rfl (by decide) rfl (fun ls hl => ?_)
        refine lv_iinc (v := (x2 + (1 : Int32))) (lv' := [(2, .int (x2 + (1 : Int32))), (1, .int (x1 + (1 : Int32))), (0, .ref (a 3))]) hx hb dX0_countHoaxes_23 hl (k := 2) rfl rfl (by decide) rfl (fun ls hl => ?_)
        refine lv_goto (tgt := 4) hx hb dX0_countHoaxes_26 (by decide) ?_
        exact ih (x1 + (1 : Int32)) (x2 + (1 : Int32)) _ _ _ V (lv_sub hl [2, 1, 0] rfl) h
set_option maxHeartbeats 4000000 in
theorem mX0_countHoaxes {l : Launch} {D : va_G} {a : Nat → Nat} {cA : ClassId} {sz : Nat} {u : g_S}  {rv : Int32} (h : fcA_countHoaxes u = some rv) : gw_Mi D vwCl [(cA, .int)] (cjA a) gX (cjW a cA) l yX0_countHoaxes wxX0_countHoaxes rmX0_countHoaxes sz u [.ref (a 3)] rv u := by
  refine gw_Mof (Qc := fun z => va_Qi (gw_Pi rv u) (gw_W D vwCl (cjW a cA)) (rg (cjA a) z)) (cc := cX0_countHoaxes) (maxL := 3) (ret := (some .int)) (by decide) rfl ?_
  intro p e s m below meth c B C V
  obtain ⟨hx, hb, hml, hown, hts, hr, hlk⟩ := id B
  have hl := lv_entry ([.ref (a 3)]) (n := 3) (Nat.le_of_ble_eq_true rfl)
  rw [lg_entry_eq]
  generalize (lg_sl ([.ref (a 3)]) ++ List.replicate (3 - (lg_sl ([.ref (a 3)])).length) Slot.unset).toArray = ls at hl ⊢
  have hl : lv_has ls 3 [(0, .ref (a 3))] := hl
  unfold fcA_countHoaxes at h
  refine lv_iconst (v := (0 : Int32)) hx hb dX0_countHoaxes_0 (by decide) ?_
  refine lv_istore_n (lv' := [(1, .int (0 : Int32)), (0, .ref (a 3))]) hx hb dX0_countHoaxes_1 rfl hl (by decide) rfl (fun ls hl => ?_)
  refine lv_iconst (v := (0 : Int32)) hx hb dX0_countHoaxes_2 (by decide) ?_
  refine lv_istore_n (lv' := [(2, .int (0 : Int32)), (1, .int (0 : Int32)), (0, .ref (a 3))]) hx hb dX0_countHoaxes_3 rfl hl (by decide) rfl (fun ls hl => ?_)
  exact LX0_countHoaxes_4 B C 200 (0 : Int32) (0 : Int32) _ _ _ V (lv_sub hl [2, 1, 0] rfl) h
set_option maxHeartbeats 4000000 in
theorem mX4_count {l : Launch} (hl9 : l.stackTraces = false) {D : va_G} {a : Nat → Nat} {cA : ClassId} {sz : Nat} {u : g_S} {p1 : Int32} {rv : Nat × Int32} (h : fcJ_count u p1 = some rv) : gx_Mi D vwCl [(cA, .int)] (cjA a) gX (cjW a cA) l yX4_count wxX4_count (rmX4_count rv.1) (gk rv.1) (6 * gk rv.1) sz u [.ref (a 0), .int p1] rv.1 rv.2 u := by
  refine gx_Mof (Qc := fun z => va_Qi (gx_Pi rv.1 rv.2 u) (gw_W D vwCl (cjW a cA)) (rg (cjA a) z)) (XC := fun z => vx_X (gx_Px rv.1 u) (gx_W D vwCl (cjW a cA) rv.1) (rg (cjA a) z)) (cc := cX4_count) (maxL := 2) (ret := (some .int)) (by decide) rfl ?_
  intro p e s m below meth c B htab C V
  obtain ⟨hx, hb, hml, hown, hts, hr, hlk⟩ := id B
  have hl := lv_entry ([.ref (a 0), .int p1]) (n := 2) (Nat.le_of_ble_eq_true rfl)
  rw [lg_entry_eq]
  generalize (lg_sl ([.ref (a 0), .int p1]) ++ List.replicate (2 - (lg_sl ([.ref (a 0), .int p1])).length) Slot.unset).toArray = ls at hl ⊢
  have hl : lv_has ls 2 [(0, .ref (a 0)), (1, .int p1)] := hl
  unfold fcJ_count at h
  refine lv_iload_n hx hb dX4_count_0 rfl (lv_at hl 1 rfl) ?_
  refine lv_iconst (v := (4 : Int32)) hx hb dX4_count_1 (by decide) ?_
  obtain ⟨v1, hv1, h⟩ := bi_e h
  refine gw_ki V (va_runS (As := [.int p1, .int (4 : Int32)]) (rest := []) ⟨hx, hb, hml, hown, hts⟩ (mX4_isBelow (D := D) (a := a) (cA := cA) (u := u) hv1) (cwS 2 hts gcjX4_37 rfl rfl rfl (by decide +kernel) ⟨Nat.le_of_ble_eq_true rfl, Nat.le_of_ble_eq_true rfl⟩) (gw_preS gX_ok C V [.int p1, .int (4 : Int32)]) rfl rfl hl.1 rfl (lv_room (Nat.le_of_ble_eq_true rfl)) dX4_count_2 ⟨Nat.zero_le _, Nat.zero_le _⟩) (fun H locs V => ?_)
  obtain ⟨v2, hv2, h⟩ := bi_e h
  refine gy_kv V (vx_runS (As := [.int v1]) (rest := []) ⟨hx, hb, hml, hown, hts⟩ (mX4_needKnown hl9 (D := D) (a := a) (cA := cA) (u := u) hv2) (cwS 1 hts gcjX4_41 rfl rfl rfl (by decide +kernel) ⟨Nat.le_of_ble_eq_true rfl, Nat.le_of_ble_eq_true rfl⟩) (gw_preS gX_ok C V [.int v1]) rfl rfl hl.1 rfl (lv_room (Nat.le_of_ble_eq_true rfl)) dX4_count_5 (gkr (gk_le (fun q => in2a (if_f q h))))) (fun k0 H locs ce qe V hat => ?_) (fun k0 H locs V => ?_)
  · have h := if_f k0 h
    exact gx_out htab hlk V hat k0 (in2a h) rfl (gk1 (fun q => k0 ((in2a h).trans q))).1 (gk1 (fun q => k0 ((in2a h).trans q))).2
  have h := if_t k0 h
  refine lv_iload_n hx hb dX4_count_8 rfl (lv_at hl 1 rfl) ?_
  by_cases c3 : p1 = (0 : Int32)
  · have h := if_t c3 h
    refine lv_tableIn (off := 27) (tgt := 36) hx hb dX4_count_9 (by rw [c3]; decide) (by rw [c3]; decide) (by rw [c3]; rfl) (by decide) ?_
    refine lv_aload_n hx hb dX4_count_36 rfl (lv_at hl 0 rfl) ?_
    refine va_get (C := RX4) (T := TX4) (N := 4) (ci := 4) hx hb hts igX4 hown C.1 V.1 0 rfl rfl 2 (by decide) (hts _ kt_158) (fun _ h => h) rfl dX4_count_37 ?_
    refine va_get (C := RX0) (T := TX0) (N := 11) (ci := 0) hx hb hts igX0 hown C.1 V.1 3 rfl rfl 0 (by decide) (hts _ kt_77) (fun _ h => h) rfl dX4_count_40 ?_
    exact gx_reti hx hb hr rfl hlk V (in2a h).symm (in2b h) rfl (Nat.zero_le _) (Nat.zero_le _) dX4_count_43
  have h := if_f c3 h
  by_cases c4 : p1 = (1 : Int32)
  · have h := if_t c4 h
    refine lv_tableIn (off := 35) (tgt := 44) hx hb dX4_count_9 (by rw [c4]; decide) (by rw [c4]; decide) (by rw [c4]; rfl) (by decide) ?_
    refine lv_aload_n hx hb dX4_count_44 rfl (lv_at hl 0 rfl) ?_
    refine va_get (C := RX4) (T := TX4) (N := 4) (ci := 4) hx hb hts igX4 hown C.1 V.1 0 rfl rfl 3 (by decide) (hts _ kt_159) (fun _ h => h) rfl dX4_count_45 ?_
    refine va_get (C := RX1) (T := TX1) (N := 7) (ci := 1) hx hb hts igX1 hown C.1 V.1 4 rfl rfl 0 (by decide) (hts _ kt_128) (fun _ h => h) rfl dX4_count_48 ?_
    exact gx_reti hx hb hr rfl hlk V (in2a h).symm (in2b h) rfl (Nat.zero_le _) (Nat.zero_le _) dX4_count_51
  have h := if_f c4 h
  by_cases c5 : p1 = (2 : Int32)
  · have h := if_t c5 h
    refine lv_tableIn (off := 43) (tgt := 52) hx hb dX4_count_9 (by rw [c5]; decide) (by rw [c5]; decide) (by rw [c5]; rfl) (by decide) ?_
    refine lv_aload_n hx hb dX4_count_52 rfl (lv_at hl 0 rfl) ?_
    refine va_get (C := RX4) (T := TX4) (N := 4) (ci := 4) hx hb hts igX4 hown C.1 V.1 0 rfl rfl 3 (by decide) (hts _ kt_159) (fun _ h => h) rfl dX4_count_53 ?_
    obtain ⟨v6, hv6, h⟩ := bi_e h
    refine gw_ki V (va_runV (As := []) (rest := []) ⟨hx, hb, hml, hown, hts⟩ (mX1_countOpen (D := D) (a := a) (cA := cA) (u := u) hv6) (cwV 0 hts gcjX4_183 rfl rfl rfl (by decide +kernel) ⟨Nat.le_of_ble_eq_true rfl, Nat.le_of_ble_eq_true rfl⟩) (gw_preV (q0 := 4) (ci := 1) gX_ok C V [] rfl rfl) rfl rfl hl.1 rfl (lv_room (Nat.le_of_ble_eq_true rfl)) dX4_count_56 ⟨Nat.zero_le _, Nat.zero_le _⟩) (fun H locs V => ?_)
    exact gx_reti hx hb hr rfl hlk V (in2a h).symm (in2b h) rfl (Nat.zero_le _) (Nat.zero_le _) dX4_count_59
  have h := if_f c5 h
  refine lv_tableOut (tgt := 60) hx hb dX4_count_9 (by have := lv_neT c3 (a := 0) (by decide); have := lv_neT c4 (a := 1) (by decide); have := lv_neT c5 (a := 2) (by decide); omega) (by decide) ?_
  refine lv_aload_n hx hb dX4_count_60 rfl (lv_at hl 0 rfl) ?_
  refine va_get (C := RX4) (T := TX4) (N := 4) (ci := 4) hx hb hts igX4 hown C.1 V.1 0 rfl rfl 2 (by decide) (hts _ kt_158) (fun _ h => h) rfl dX4_count_61 ?_
  obtain ⟨v7, hv7, h⟩ := bi_e h
  refine gw_ki V (va_runV (As := []) (rest := []) ⟨hx, hb, hml, hown, hts⟩ (mX0_countHoaxes (D := D) (a := a) (cA := cA) (u := u) hv7) (cwV 0 hts gcjX4_187 rfl rfl rfl (by decide +kernel) ⟨Nat.le_of_ble_eq_true rfl, Nat.le_of_ble_eq_true rfl⟩) (gw_preV (q0 := 3) (ci := 0) gX_ok C V [] rfl rfl) rfl rfl hl.1 rfl (lv_room (Nat.le_of_ble_eq_true rfl)) dX4_count_64 ⟨Nat.zero_le _, Nat.zero_le _⟩) (fun H locs V => ?_)
  exact gx_reti hx hb hr rfl hlk V (in2a h).symm (in2b h) rfl (Nat.zero_le _) (Nat.zero_le _) dX4_count_67
