set_option maxHeartbeats 4000000 in
theorem LX2_isNear_9 {p : Program} {l : Launch} {e : Env} {s : State} {m : MethodId} {below : List Frame} {meth : Method} {c : Code} {args : Array Value} {D : va_G} {a : Nat → Nat} {cA : ClassId} (B : gw_B p s m args meth c cX2_isNear 7 (some .boolean) RX2 gT) (C : gw_C D vwCl [(cA, .int)] (cjA a) gX s) {rv : Int32} {u : g_S} : ∀ (n : Nat) (x3 : Int32) (x4 : Int32) (x5 : Int32) (x6 : Int32) (H : Heap) (locs : List Loc) (ls : Array Slot), gw_V D vwCl (cjA a) (cjW a cA) s u H locs → lv_has ls 7 [(0, .ref (a 2)), (3, .int x3), (4, .int x4), (5, .int x5), (6, .int x6)] → fcR_isNear_9 u n x3 x4 x5 x6 = some rv → W p l e rmX2_isNear s m args below meth c H locs 0 0 (gw_Ei D vwCl (cjA a) (cjW a cA) below args s rv u) (F0 m 9 ls []) := by
  obtain ⟨hx, hb, hml, hown, hts, hr, hlk⟩ := id B
  intro n
  induction n with
  | zero =>
    intro x3 x4 x5 x6 H locs ls V hl h
    cases h
  | succ n ih =>
    intro x3 x4 x5 x6 H locs ls V hl h
    rw [fcR_isNear_9_s] at h
    refine lv_iload hx hb dX2_isNear_9 (lv_at hl 4 rfl) ?_
    refine lv_iload_n hx hb dX2_isNear_11 rfl (lv_at hl 1 rfl) ?_
    refine lv_icmp_ge (tgt := 53) hx hb dX2_isNear_12 (by decide) (fun c1 => ?_) (fun c1 => ?_)
    · have h := if_t c1 h
      refine lv_iconst (v := (0 : Int32)) hx hb dX2_isNear_53 (by decide) ?_
      exact gw_reti hx hb hr (nar_z (Or.inl rfl)) hlk V (Option.some.inj h) rfl dX2_isNear_54
    · have h := if_f c1 h
      refine lv_aload_n hx hb dX2_isNear_15 rfl (lv_at hl 0 rfl) ?_
      refine va_get (C := RX2) (T := TX2) (N := 2) (ci := 2) hx hb hts igX2 hown C.1 V.1 2 rfl rfl 1 (by decide) (hts _ kt_64) (fun _ h => h) rfl dX2_isNear_16 ?_
      refine lv_iload hx hb dX2_isNear_19 (lv_at hl 3 rfl) ?_
      refine lv_iload hx hb dX2_isNear_21 (lv_at hl 4 rfl) ?_
      refine lv_iadd hx hb dX2_isNear_23 ?_
      obtain ⟨i2, h⟩ := ck_e h
      refine va_iald hx hb C.1 V.1 11 0 rfl rfl i2 dX2_isNear_24 ?_
      refine lv_aload_n hx hb dX2_isNear_25 rfl (lv_at hl 0 rfl) ?_
      refine va_get (C := RX2) (T := TX2) (N := 2) (ci := 2) hx hb hts igX2 hown C.1 V.1 2 rfl rfl 1 (by decide) (hts _ kt_64) (fun _ h => h) rfl dX2_isNear_26 ?_
      refine lv_iload hx hb dX2_isNear_29 (lv_at hl 3 rfl) ?_
      refine lv_iload hx hb dX2_isNear_31 (lv_at hl 4 rfl) ?_
      refine lv_iadd hx hb dX2_isNear_33 ?_
      refine lv_iconst (v := (1 : Int32)) hx hb dX2_isNear_34 (by decide) ?_
      refine lv_iadd hx hb dX2_isNear_35 ?_
      obtain ⟨i3, h⟩ := ck_e h
      refine va_iald hx hb C.1 V.1 11 0 rfl rfl i3 dX2_isNear_36 ?_
      refine lv_iload hx hb dX2_isNear_37 (lv_at hl 2 rfl) ?_
      obtain ⟨v4, hv4, h⟩ := bi_e h
      refine gw_ki V (va_runS (As := [.int (u.2 6 (x5 + x6).toNatClampNeg), .int (u.2 6 ((x5 + x6) + (1 : Int32)).toNatClampNeg), .int x4]) (rest := []) ⟨hx, hb, hml, hown, hts⟩ (mX2_isNearPiece (D := D) (a := a) (cA := cA) (u := u) hv4) (cwS 3 hts gcjX2_18 rfl rfl rfl (by decide +kernel) ⟨Nat.le_of_ble_eq_true rfl, Nat.le_of_ble_eq_true rfl⟩) (gw_preS gX_ok C V [.int (u.2 6 (x5 + x6).toNatClampNeg), .int (u.2 6 ((x5 + x6) + (1 : Int32)).toNatClampNeg), .int x4]) rfl rfl hl.1 rfl (lv_room (Nat.le_of_ble_eq_true rfl)) dX2_isNear_39 ⟨Nat.zero_le _, Nat.zero_le _⟩) (fun H locs V => ?_)
      refine lv_if_eq (tgt := 47) hx hb dX2_isNear_42 (by decide) (fun c5 => ?_) (fun c5 => ?_)
      · have h := if_t c5 h
        refine lv_iinc (v := (x6 + (1 : Int32))) (lv' := [(6, .int (x6 + (1 : Int32))), (0, .ref (a 2)), (3, .int x3), (4, .int x4), (5, .int x5)]) hx hb dX2_isNear_47 hl (k := 4) rfl rfl (by decide) rfl (fun ls hl => ?_)
        refine lv_goto (tgt := 9) hx hb dX2_isNear_50 (by decide) ?_
        exact ih x3 x4 x5 (x6 + (1 : Int32)) _ _ _ V (lv_sub hl [1, 2, 3, 4, 0] rfl) h
      · have h := if_f c5 h
        refine lv_iconst (v := (1 : Int32)) hx hb dX2_isNear_45 (by decide) ?_
        exact gw_reti hx hb hr (nar_z (Or.inr rfl)) hlk V (Option.some.inj h) rfl dX2_isNear_46
set_option maxHeartbeats 4000000 in
theorem mX2_isNear {l : Launch} {D : va_G} {a : Nat → Nat} {cA : ClassId} {sz : Nat} {u : g_S} {p1 : Int32} {p2 : Int32} {p3 : Int32} {p4 : Int32} {rv : Int32} (h : fcR_isNear u p1 p2 p3 p4 = some rv) : gw_Mi D vwCl [(cA, .int)] (cjA a) gX (cjW a cA) l yX2_isNear wxX2_isNear rmX2_isNear sz u [.ref (a 2), .int p1, .int p2, .int p3, .int p4] rv u := by
  refine gw_Mof (Qc := fun z => va_Qi (gw_Pi rv u) (gw_W D vwCl (cjW a cA)) (rg (cjA a) z)) (cc := cX2_isNear) (maxL := 7) (ret := (some .boolean)) (by decide) rfl ?_
  intro p e s m below meth c B C V
  obtain ⟨hx, hb, hml, hown, hts, hr, hlk⟩ := id B
  have hl := lv_entry ([.ref (a 2), .int p1, .int p2, .int p3, .int p4]) (n := 7) (Nat.le_of_ble_eq_true rfl)
  rw [lg_entry_eq]
  generalize (lg_sl ([.ref (a 2), .int p1, .int p2, .int p3, .int p4]) ++ List.replicate (7 - (lg_sl ([.ref (a 2), .int p1, .int p2, .int p3, .int p4])).length) Slot.unset).toArray = ls at hl ⊢
  have hl : lv_has ls 7 [(0, .ref (a 2)), (1, .int p1), (2, .int p2), (3, .int p3), (4, .int p4)] := hl
  unfold fcR_isNear at h
  refine lv_iload_n hx hb dX2_isNear_0 rfl (lv_at hl 1 rfl) ?_
  refine lv_bipush (v := (8 : Int32)) hx hb dX2_isNear_1 (by decide) ?_
  refine lv_imul hx hb dX2_isNear_3 ?_
  obtain ⟨w1, ew1, h⟩ := gl_e h
  refine gw_nmi ew1 ?_
  refine lv_istore (lv' := [(5, .int w1), (0, .ref (a 2)), (1, .int p1), (2, .int p2), (3, .int p3), (4, .int p4)]) hx hb dX2_isNear_4 hl (by decide) rfl (fun ls hl => ?_)
  refine lv_iload_n hx hb dX2_isNear_6 rfl (lv_at hl 3 rfl) ?_
  refine lv_istore (lv' := [(6, .int p2), (5, .int w1), (0, .ref (a 2)), (1, .int p1), (2, .int p2), (3, .int p3), (4, .int p4)]) hx hb dX2_isNear_7 hl (by decide) rfl (fun ls hl => ?_)
  exact LX2_isNear_9 B C 200 p3 p4 w1 p2 _ _ _ V (lv_sub hl [2, 5, 6, 1, 0] rfl) h
set_option maxHeartbeats 4000000 in
theorem mX4_isOnStretch {l : Launch} {D : va_G} {a : Nat → Nat} {cA : ClassId} {sz : Nat} {u : g_S} {p1 : Int32} {p2 : Int32} {rv : Int32} (h : fcJ_isOnStretch u p1 p2 = some rv) : gw_Mi D vwCl [(cA, .int)] (cjA a) gX (cjW a cA) l yX4_isOnStretch wxX4_isOnStretch rmX4_isOnStretch sz u [.ref (a 0), .int p1, .int p2] rv u := by
  refine gw_Mof (Qc := fun z => va_Qi (gw_Pi rv u) (gw_W D vwCl (cjW a cA)) (rg (cjA a) z)) (cc := cX4_isOnStretch) (maxL := 5) (ret := (some .boolean)) (by decide) rfl ?_
  intro p e s m below meth c B C V
  obtain ⟨hx, hb, hml, hown, hts, hr, hlk⟩ := id B
  have hl := lv_entry ([.ref (a 0), .int p1, .int p2]) (n := 5) (Nat.le_of_ble_eq_true rfl)
  rw [lg_entry_eq]
  generalize (lg_sl ([.ref (a 0), .int p1, .int p2]) ++ List.replicate (5 - (lg_sl ([.ref (a 0), .int p1, .int p2])).length) Slot.unset).toArray = ls at hl ⊢
  have hl : lv_has ls 5 [(0, .ref (a 0)), (1, .int p1), (2, .int p2)] := hl
  unfold fcJ_isOnStretch at h
  refine lv_aload_n hx hb dX4_isOnStretch_0 rfl (lv_at hl 0 rfl) ?_
  refine va_get (C := RX4) (T := TX4) (N := 4) (ci := 4) hx hb hts igX4 hown C.1 V.1 0 rfl rfl 3 (by decide) (hts _ kt_159) (fun _ h => h) rfl dX4_isOnStretch_1 ?_
  refine va_get (C := RX1) (T := TX1) (N := 7) (ci := 1) hx hb hts igX1 hown C.1 V.1 4 rfl rfl 4 (by decide) (hts _ kt_136) (fun _ h => h) rfl dX4_isOnStretch_4 ?_
  refine lv_iload_n hx hb dX4_isOnStretch_7 rfl (lv_at hl 2 rfl) ?_
  obtain ⟨i1, h⟩ := ck_e h
  refine va_iald hx hb C.1 V.1 25 0 rfl rfl i1 dX4_isOnStretch_8 ?_
  obtain ⟨w2, ew2, h⟩ := gl_e h
  refine gw_nmi ew2 ?_
  refine lv_istore_n (lv' := [(3, .int w2), (0, .ref (a 0)), (1, .int p1), (2, .int p2)]) hx hb dX4_isOnStretch_9 rfl hl (by decide) rfl (fun ls hl => ?_)
  refine lv_aload_n hx hb dX4_isOnStretch_10 rfl (lv_at hl 1 rfl) ?_
  refine va_get (C := RX4) (T := TX4) (N := 4) (ci := 4) hx hb hts igX4 hown C.1 V.1 0 rfl rfl 2 (by decide) (hts _ kt_158) (fun _ h => h) rfl dX4_isOnStretch_11 ?_
  refine va_get (C := RX0) (T := TX0) (N := 11) (ci := 0) hx hb hts igX0 hown C.1 V.1 3 rfl rfl 3 (by decide) (hts _ kt_83) (fun _ h => h) rfl dX4_isOnStretch_14 ?_
  refine lv_iload_n hx hb dX4_isOnStretch_17 rfl (lv_at hl 2 rfl) ?_
  obtain ⟨i3, h⟩ := ck_e h
  refine va_iald hx hb C.1 V.1 14 0 rfl rfl i3 dX4_isOnStretch_18 ?_
  obtain ⟨w4, ew4, h⟩ := gl_e h
  refine gw_nmi ew4 ?_
  refine lv_istore (lv' := [(4, .int w4), (3, .int w2), (0, .ref (a 0)), (1, .int p1), (2, .int p2)]) hx hb dX4_isOnStretch_19 hl (by decide) rfl (fun ls hl => ?_)
  refine lv_iload hx hb dX4_isOnStretch_21 (lv_at hl 0 rfl) ?_
  refine lv_iconst (v := (-1 : Int32)) hx hb dX4_isOnStretch_23 (by decide) ?_
  refine lv_icmp_ne (tgt := 46) hx hb dX4_isOnStretch_24 (by decide) (fun c5 => ?_) (fun c5 => ?_)
  · have h := if_t c5 h
    refine lv_aload_n hx hb dX4_isOnStretch_46 rfl (lv_at hl 2 rfl) ?_
    refine va_get (C := RX4) (T := TX4) (N := 4) (ci := 4) hx hb hts igX4 hown C.1 V.1 0 rfl rfl 1 (by decide) (hts _ kt_157) (fun _ h => h) rfl dX4_isOnStretch_47 ?_
    refine lv_iload_n hx hb dX4_isOnStretch_50 rfl (lv_at hl 1 rfl) ?_
    refine lv_aload_n hx hb dX4_isOnStretch_51 rfl (lv_at hl 2 rfl) ?_
    refine va_get (C := RX4) (T := TX4) (N := 4) (ci := 4) hx hb hts igX4 hown C.1 V.1 0 rfl rfl 3 (by decide) (hts _ kt_159) (fun _ h => h) rfl dX4_isOnStretch_52 ?_
    refine va_get (C := RX1) (T := TX1) (N := 7) (ci := 1) hx hb hts igX1 hown C.1 V.1 4 rfl rfl 5 (by decide) (hts _ kt_138) (fun _ h => h) rfl dX4_isOnStretch_55 ?_
    refine lv_iload_n hx hb dX4_isOnStretch_58 rfl (lv_at hl 4 rfl) ?_
    obtain ⟨i6, h⟩ := ck_e h
    refine va_iald hx hb C.1 V.1 26 0 rfl rfl i6 dX4_isOnStretch_59 ?_
    refine lv_aload_n hx hb dX4_isOnStretch_60 rfl (lv_at hl 2 rfl) ?_
    refine va_get (C := RX4) (T := TX4) (N := 4) (ci := 4) hx hb hts igX4 hown C.1 V.1 0 rfl rfl 3 (by decide) (hts _ kt_159) (fun _ h => h) rfl dX4_isOnStretch_61 ?_
    refine va_get (C := RX1) (T := TX1) (N := 7) (ci := 1) hx hb hts igX1 hown C.1 V.1 4 rfl rfl 6 (by decide) (hts _ kt_140) (fun _ h => h) rfl dX4_isOnStretch_64 ?_
    refine lv_iload_n hx hb dX4_isOnStretch_67 rfl (lv_at hl 4 rfl) ?_
    obtain ⟨i7, h⟩ := ck_e h
    refine va_iald hx hb C.1 V.1 27 0 rfl rfl i7 dX4_isOnStretch_68 ?_
    refine lv_iload hx hb dX4_isOnStretch_69 (lv_at hl 0 rfl) ?_
    obtain ⟨v8, hv8, h⟩ := bi_e h
    refine gw_ki V (va_runV (As := [.int w2, .int (u.2 21 p2.toNatClampNeg), .int (u.2 22 p2.toNatClampNeg), .int w4]) (rest := []) ⟨hx, hb, hml, hown, hts⟩ (mX2_isNear (D := D) (a := a) (cA := cA) (u := u) hv8) (cwV 4 hts gcjX4_251 rfl rfl rfl (by decide +kernel) ⟨Nat.le_of_ble_eq_true rfl, Nat.le_of_ble_eq_true rfl⟩) (gw_preV (q0 := 2) (ci := 2) gX_ok C V [.int w2, .int (u.2 21 p2.toNatClampNeg), .int (u.2 22 p2.toNatClampNeg), .int w4] rfl rfl) rfl rfl hl.1 rfl (lv_room (Nat.le_of_ble_eq_true rfl)) dX4_isOnStretch_71 ⟨Nat.zero_le _, Nat.zero_le _⟩) (fun H locs V => ?_)
    obtain ⟨hz, h⟩ := if_s h
    exact gw_reti hx hb hr (nar_z hz) hlk V (Option.some.inj h) rfl dX4_isOnStretch_74
  · have h := if_nn c5 h
    refine lv_aload_n hx hb dX4_isOnStretch_27 rfl (lv_at hl 2 rfl) ?_
    refine va_get (C := RX4) (T := TX4) (N := 4) (ci := 4) hx hb hts igX4 hown C.1 V.1 0 rfl rfl 2 (by decide) (hts _ kt_158) (fun _ h => h) rfl dX4_isOnStretch_28 ?_
    refine va_get (C := RX0) (T := TX0) (N := 11) (ci := 0) hx hb hts igX0 hown C.1 V.1 3 rfl rfl 5 (by decide) (hts _ kt_87) (fun _ h => h) rfl dX4_isOnStretch_31 ?_
    refine lv_iload_n hx hb dX4_isOnStretch_34 rfl (lv_at hl 3 rfl) ?_
    obtain ⟨i9, h⟩ := ck_e h
    refine va_iald hx hb C.1 V.1 16 0 rfl rfl i9 dX4_isOnStretch_35 ?_
    refine lv_iload_n hx hb dX4_isOnStretch_36 rfl (lv_at hl 1 rfl) ?_
    refine lv_icmp_ne (tgt := 44) hx hb dX4_isOnStretch_37 (by decide) (fun c10 => ?_) (fun c10 => ?_)
    · have h := if_t c10 h
      refine lv_iconst (v := (0 : Int32)) hx hb dX4_isOnStretch_44 (by decide) ?_
      exact gw_reti hx hb hr (nar_z (Or.inl rfl)) hlk V (Option.some.inj h) rfl dX4_isOnStretch_45
    · have h := if_nn c10 h
      refine lv_iconst (v := (1 : Int32)) hx hb dX4_isOnStretch_40 (by decide) ?_
      refine lv_goto (tgt := 45) hx hb dX4_isOnStretch_41 (by decide) ?_
      exact gw_reti hx hb hr (nar_z (Or.inr rfl)) hlk V (Option.some.inj h) rfl dX4_isOnStretch_45
set_option maxHeartbeats 4000000 in
theorem LX4_firstOnStretch_2 {p : Program} {l : Launch} {e : Env} {s : State} {m : MethodId} {below : List Frame} {meth : Method} {c : Code} {args : Array Value} {D : va_G} {a : Nat → Nat} {cA : ClassId} (B : gw_B p s m args meth c cX4_firstOnStretch 3 (some .int) RX4 gT) (C : gw_C D vwCl [(cA, .int)] (cjA a) gX s) {rv : Int32} {u : g_S} : ∀ (n : Nat) (x1 : Int32) (x2 : Int32) (H : Heap) (locs : List Loc) (ls : Array Slot), gw_V D vwCl (cjA a) (cjW a cA) s u H locs → lv_has ls 3 [(0, .ref (a 0)), (1, .int x1), (2, .int x2)] → fcJ_firstOnStretch_2 u n x1 x2 = some rv → W p l e rmX4_firstOnStretch s m args below meth c H locs 0 0 (gw_Ei D vwCl (cjA a) (cjW a cA) below args s rv u) (F0 m 2 ls []) := by
  obtain ⟨hx, hb, hml, hown, hts, hr, hlk⟩ := id B
  intro n
  induction n with
  | zero =>
    intro x1 x2 H locs ls V hl h
    cases h
  | succ n ih =>
    intro x1 x2 H locs ls V hl h
    rw [fcJ_firstOnStretch_2_s] at h
    refine lv_iload_n hx hb dX4_firstOnStretch_2 rfl (lv_at hl 2 rfl) ?_
    refine lv_aload_n hx hb dX4_firstOnStretch_3 rfl (lv_at hl 0 rfl) ?_
    refine va_get (C := RX4) (T := TX4) (N := 4) (ci := 4) hx hb hts igX4 hown C.1 V.1 0 rfl rfl 3 (by decide) (hts _ kt_159) (fun _ h => h) rfl dX4_firstOnStretch_4 ?_
    refine va_get (C := RX1) (T := TX1) (N := 7) (ci := 1) hx hb hts igX1 hown C.1 V.1 4 rfl rfl 0 (by decide) (hts _ kt_128) (fun _ h => h) rfl dX4_firstOnStretch_7 ?_
    refine lv_icmp_ge (tgt := 58) hx hb dX4_firstOnStretch_10 (by decide) (fun c1 => ?_) (fun c1 => ?_)
    · have h := if_t c1 h
      refine lv_iconst (v := (-1 : Int32)) hx hb dX4_firstOnStretch_58 (by decide) ?_
      exact gw_reti hx hb hr rfl hlk V (Option.some.inj h) rfl dX4_firstOnStretch_59
    · have h := if_f c1 h
      refine lv_aload_n hx hb dX4_firstOnStretch_13 rfl (lv_at hl 0 rfl) ?_
      refine va_get (C := RX4) (T := TX4) (N := 4) (ci := 4) hx hb hts igX4 hown C.1 V.1 0 rfl rfl 3 (by decide) (hts _ kt_159) (fun _ h => h) rfl dX4_firstOnStretch_14 ?_
      refine lv_iload_n hx hb dX4_firstOnStretch_17 rfl (lv_at hl 2 rfl) ?_
      refine lv_aload_n hx hb dX4_firstOnStretch_18 rfl (lv_at hl 0 rfl) ?_
      refine va_get (C := RX4) (T := TX4) (N := 4) (ci := 4) hx hb hts igX4 hown C.1 V.1 0 rfl rfl 2 (by decide) (hts _ kt_158) (fun _ h => h) rfl dX4_firstOnStretch_19 ?_
      refine va_get (C := RX0) (T := TX0) (N := 11) (ci := 0) hx hb hts igX0 hown C.1 V.1 3 rfl rfl 2 (by decide) (hts _ kt_81) (fun _ h => h) rfl dX4_firstOnStretch_22 ?_
      refine lv_iload_n hx hb dX4_firstOnStretch_25 rfl (lv_at hl 1 rfl) ?_
      obtain ⟨i2, h⟩ := ck_e h
      refine va_iald hx hb C.1 V.1 13 0 rfl rfl i2 dX4_firstOnStretch_26 ?_
      obtain ⟨v3, hv3, h⟩ := bi_e h
      refine gw_ki V (va_runV (As := [.int x2, .int (u.2 8 x1.toNatClampNeg)]) (rest := []) ⟨hx, hb, hml, hown, hts⟩ (mX1_isWatchedFor (D := D) (a := a) (cA := cA) (u := u) hv3) (cwV 2 hts gcjX4_241 rfl rfl rfl (by decide +kernel) ⟨Nat.le_of_ble_eq_true rfl, Nat.le_of_ble_eq_true rfl⟩) (gw_preV (q0 := 4) (ci := 1) gX_ok C V [.int x2, .int (u.2 8 x1.toNatClampNeg)] rfl rfl) rfl rfl hl.1 rfl (lv_room (Nat.le_of_ble_eq_true rfl)) dX4_firstOnStretch_27 ⟨Nat.zero_le _, Nat.zero_le _⟩) (fun H locs V => ?_)
      refine lv_if_eq (tgt := 52) hx hb dX4_firstOnStretch_30 (by decide) (fun c4 => ?_) (fun c4 => ?_)
      · have h := if_t c4 h
        refine lv_iinc (v := (x2 + (1 : Int32))) (lv' := [(2, .int (x2 + (1 : Int32))), (0, .ref (a 0)), (1, .int x1)]) hx hb dX4_firstOnStretch_52 hl (k := 2) rfl rfl (by decide) rfl (fun ls hl => ?_)
        refine lv_goto (tgt := 2) hx hb dX4_firstOnStretch_55 (by decide) ?_
        exact ih x1 (x2 + (1 : Int32)) _ _ _ V (lv_sub hl [1, 2, 0] rfl) h
      · have h := if_f c4 h
        refine lv_aload_n hx hb dX4_firstOnStretch_33 rfl (lv_at hl 0 rfl) ?_
        refine lv_iload_n hx hb dX4_firstOnStretch_34 rfl (lv_at hl 1 rfl) ?_
        refine lv_iload_n hx hb dX4_firstOnStretch_35 rfl (lv_at hl 2 rfl) ?_
        obtain ⟨v5, hv5, h⟩ := bi_e h
        refine gw_ki V (va_runV (As := [.int x1, .int x2]) (rest := []) ⟨hx, hb, hml, hown, hts⟩ (mX4_isOnStretch (D := D) (a := a) (cA := cA) (u := u) hv5) (cwV 2 hts gcjX4_244 rfl rfl rfl (by decide +kernel) ⟨Nat.le_of_ble_eq_true rfl, Nat.le_of_ble_eq_true rfl⟩) (gw_preV (q0 := 0) (ci := 4) gX_ok C V [.int x1, .int x2] rfl rfl) rfl rfl hl.1 rfl (lv_room (Nat.le_of_ble_eq_true rfl)) dX4_firstOnStretch_36 ⟨Nat.zero_le _, Nat.zero_le _⟩) (fun H locs V => ?_)
        refine lv_if_eq (tgt := 52) hx hb dX4_firstOnStretch_39 (by decide) (fun c6 => ?_) (fun c6 => ?_)
        · have h := if_t c6 h
          refine lv_iinc (v := (x2 + (1 : Int32))) (lv' := [(2, .int (x2 + (1 : Int32))), (0, .ref (a 0)), (1, .int x1)]) hx hb dX4_firstOnStretch_52 hl (k := 2) rfl rfl (by decide) rfl (fun ls hl => ?_)
          refine lv_goto (tgt := 2) hx hb dX4_firstOnStretch_55 (by decide) ?_
          exact ih x1 (x2 + (1 : Int32)) _ _ _ V (lv_sub hl [1, 2, 0] rfl) h
        · have h := if_f c6 h
          refine lv_aload_n hx hb dX4_firstOnStretch_42 rfl (lv_at hl 0 rfl) ?_
          refine va_get (C := RX4) (T := TX4) (N := 4) (ci := 4) hx hb hts igX4 hown C.1 V.1 0 rfl rfl 3 (by decide) (hts _ kt_159) (fun _ h => h) rfl dX4_firstOnStretch_43 ?_
          refine va_get (C := RX1) (T := TX1) (N := 7) (ci := 1) hx hb hts igX1 hown C.1 V.1 4 rfl rfl 3 (by decide) (hts _ kt_134) (fun _ h => h) rfl dX4_firstOnStretch_46 ?_
          refine lv_iload_n hx hb dX4_firstOnStretch_49 rfl (lv_at hl 2 rfl) ?_
          obtain ⟨i7, h⟩ := ck_e h
          refine va_iald hx hb C.1 V.1 24 0 rfl rfl i7 dX4_firstOnStretch_50 ?_
          exact gw_reti hx hb hr rfl hlk V (Option.some.inj h) rfl dX4_firstOnStretch_51
set_option maxHeartbeats 4000000 in
theorem mX4_firstOnStretch {l : Launch} {D : va_G} {a : Nat → Nat} {cA : ClassId} {sz : Nat} {u : g_S} {p1 : Int32} {rv : Int32} (h : fcJ_firstOnStretch u p1 = some rv) : gw_Mi D vwCl [(cA, .int)] (cjA a) gX (cjW a cA) l yX4_firstOnStretch wxX4_firstOnStretch rmX4_firstOnStretch sz u [.ref (a 0), .int p1] rv u := by
  refine gw_Mof (Qc := fun z => va_Qi (gw_Pi rv u) (gw_W D vwCl (cjW a cA)) (rg (cjA a) z)) (cc := cX4_firstOnStretch) (maxL := 3) (ret := (some .int)) (by decide) rfl ?_
  intro p e s m below meth c B C V
  obtain ⟨hx, hb, hml, hown, hts, hr, hlk⟩ := id B
  have hl := lv_entry ([.ref (a 0), .int p1]) (n := 3) (Nat.le_of_ble_eq_true rfl)
  rw [lg_entry_eq]
  generalize (lg_sl ([.ref (a 0), .int p1]) ++ List.replicate (3 - (lg_sl ([.ref (a 0), .int p1])).length) Slot.unset).toArray = ls at hl ⊢
  have hl : lv_has ls 3 [(0, .ref (a 0)), (1, .int p1)] := hl
  unfold fcJ_firstOnStretch at h
  refine lv_iconst (v := (0 : Int32)) hx hb dX4_firstOnStretch_0 (by decide) ?_
  refine lv_istore_n (lv' := [(2, .int (0 : Int32)), (0, .ref (a 0)), (1, .int p1)]) hx hb dX4_firstOnStretch_1 rfl hl (by decide) rfl (fun ls hl => ?_)
  exact LX4_firstOnStretch_2 B C 200 p1 (0 : Int32) _ _ _ V (lv_sub hl [1, 2, 0] rfl) h
set_option maxHeartbeats 4000000 in
theorem mX4_isCandidate {l : Launch} {D : va_G} {a : Nat → Nat} {cA : ClassId} {sz : Nat} {u : g_S} {p1 : Int32} {p2 : Int32} {rv : Int32} (h : fcJ_isCandidate u p1 p2 = some rv) : gw_Mi D vwCl [(cA, .int)] (cjA a) gX (cjW a cA) l yX4_isCandidate wxX4_isCandidate rmX4_isCandidate sz u [.ref (a 0), .int p1, .int p2] rv u := by
  refine gw_Mof (Qc := fun z => va_Qi (gw_Pi rv u) (gw_W D vwCl (cjW a cA)) (rg (cjA a) z)) (cc := cX4_isCandidate) (maxL := 3) (ret := (some .boolean)) (by decide) rfl ?_
  intro p e s m below meth c B C V
  obtain ⟨hx, hb, hml, hown, hts, hr, hlk⟩ := id B
  have hl := lv_entry ([.ref (a 0), .int p1, .int p2]) (n := 3) (Nat.le_of_ble_eq_true rfl)
  rw [lg_entry_eq]
  generalize (lg_sl ([.ref (a 0), .int p1, .int p2]) ++ List.replicate (3 - (lg_sl ([.ref (a 0), .int p1, .int p2])).length) Slot.unset).toArray = ls at hl ⊢
  have hl : lv_has ls 3 [(0, .ref (a 0)), (1, .int p1), (2, .int p2)] := hl
  unfold fcJ_isCandidate at h
  refine lv_aload_n hx hb dX4_isCandidate_0 rfl (lv_at hl 0 rfl) ?_
  refine va_get (C := RX4) (T := TX4) (N := 4) (ci := 4) hx hb hts igX4 hown C.1 V.1 0 rfl rfl 2 (by decide) (hts _ kt_158) (fun _ h => h) rfl dX4_isCandidate_1 ?_
  refine va_get (C := RX0) (T := TX0) (N := 11) (ci := 0) hx hb hts igX0 hown C.1 V.1 3 rfl rfl 2 (by decide) (hts _ kt_81) (fun _ h => h) rfl dX4_isCandidate_4 ?_
  refine lv_iload_n hx hb dX4_isCandidate_7 rfl (lv_at hl 1 rfl) ?_
  obtain ⟨i1, h⟩ := ck_e h
  refine va_iald hx hb C.1 V.1 13 0 rfl rfl i1 dX4_isCandidate_8 ?_
  refine lv_aload_n hx hb dX4_isCandidate_9 rfl (lv_at hl 0 rfl) ?_
  refine va_get (C := RX4) (T := TX4) (N := 4) (ci := 4) hx hb hts igX4 hown C.1 V.1 0 rfl rfl 2 (by decide) (hts _ kt_158) (fun _ h => h) rfl dX4_isCandidate_10 ?_
  refine va_get (C := RX0) (T := TX0) (N := 11) (ci := 0) hx hb hts igX0 hown C.1 V.1 3 rfl rfl 2 (by decide) (hts _ kt_81) (fun _ h => h) rfl dX4_isCandidate_13 ?_
  refine lv_iload_n hx hb dX4_isCandidate_16 rfl (lv_at hl 2 rfl) ?_
  obtain ⟨i2, h⟩ := ck_e h
  refine va_iald hx hb C.1 V.1 13 0 rfl rfl i2 dX4_isCandidate_17 ?_
  refine lv_icmp_ne (tgt := 33) hx hb dX4_isCandidate_18 (by decide) (fun c3 => ?_) (fun c3 => ?_)
  · have h := if_t c3 h
    refine lv_iconst (v := (0 : Int32)) hx hb dX4_isCandidate_33 (by decide) ?_
    exact gw_reti hx hb hr (nar_z (Or.inl rfl)) hlk V (Option.some.inj h) rfl dX4_isCandidate_34
  · have h := if_nn c3 h
    refine lv_aload_n hx hb dX4_isCandidate_21 rfl (lv_at hl 0 rfl) ?_
    refine lv_iload_n hx hb dX4_isCandidate_22 rfl (lv_at hl 1 rfl) ?_
    obtain ⟨v4, hv4, h⟩ := bi_e h
    refine gw_ki V (va_runV (As := [.int p1]) (rest := []) ⟨hx, hb, hml, hown, hts⟩ (mX4_canBeReason (D := D) (a := a) (cA := cA) (u := u) hv4) (cwV 1 hts gcjX4_235 rfl rfl rfl (by decide +kernel) ⟨Nat.le_of_ble_eq_true rfl, Nat.le_of_ble_eq_true rfl⟩) (gw_preV (q0 := 0) (ci := 4) gX_ok C V [.int p1] rfl rfl) rfl rfl hl.1 rfl (lv_room (Nat.le_of_ble_eq_true rfl)) dX4_isCandidate_23 ⟨Nat.zero_le _, Nat.zero_le _⟩) (fun H locs V => ?_)
    refine lv_if_eq (tgt := 33) hx hb dX4_isCandidate_26 (by decide) (fun c5 => ?_) (fun c5 => ?_)
    · have h := if_t c5 h
      refine lv_iconst (v := (0 : Int32)) hx hb dX4_isCandidate_33 (by decide) ?_
      exact gw_reti hx hb hr (nar_z (Or.inl rfl)) hlk V (Option.some.inj h) rfl dX4_isCandidate_34
    · have h := if_f c5 h
      refine lv_iconst (v := (1 : Int32)) hx hb dX4_isCandidate_29 (by decide) ?_
      refine lv_goto (tgt := 34) hx hb dX4_isCandidate_30 (by decide) ?_
      exact gw_reti hx hb hr (nar_z (Or.inr rfl)) hlk V (Option.some.inj h) rfl dX4_isCandidate_34
set_option maxHeartbeats 4000000 in
theorem LX3_weigh_8 {p : Program} {l : Launch} {e : Env} {s : State} {m : MethodId} {below : List Frame} {meth : Method} {c : Code} {args : Array Value} {D : va_G} {a : Nat → Nat} {cA : ClassId} (B : gw_B p s m args meth c cX3_weigh 6 (some .int) RX3 gT) (C : gw_C D vwCl [(cA, .int)] (cjA a) gX s) {rv : Int32} {u : g_S} : ∀ (n : Nat) (x1 : Int32) (x3 : Int32) (x4 : Int32) (x5 : Int32) (H : Heap) (locs : List Loc) (ls : Array Slot), gw_V D vwCl (cjA a) (cjW a cA) s u H locs → lv_has ls 6 [(0, .ref (a 1)), (1, .int x1), (3, .int x3), (4, .int x4), (5, .int x5)] → fcU_weigh_8 u n x1 x3 x4 x5 = some rv → W p l e rmX3_weigh s m args below meth c H locs 0 0 (gw_Ei D vwCl (cjA a) (cjW a cA) below args s rv u) (F0 m 8 ls []) := by
  obtain ⟨hx, hb, hml, hown, hts, hr, hlk⟩ := id B
  intro n
  induction n with
  | zero =>
    intro x1 x3 x4 x5 H locs ls V hl h
    cases h
  | succ n ih =>
    intro x1 x3 x4 x5 H locs ls V hl h
    rw [fcU_weigh_8_s] at h
    refine lv_iload hx hb dX3_weigh_8 (lv_at hl 4 rfl) ?_
    refine lv_bipush (v := (32 : Int32)) hx hb dX3_weigh_10 (by decide) ?_
    refine lv_icmp_ge (tgt := 55) hx hb dX3_weigh_12 (by decide) (fun c1 => ?_) (fun c1 => ?_)
    · have h := if_t c1 h
      refine lv_iload_n hx hb dX3_weigh_55 rfl (lv_at hl 2 rfl) ?_
      exact gw_reti hx hb hr rfl hlk V (Option.some.inj h) rfl dX3_weigh_56
    · have h := if_f c1 h
      refine lv_iload hx hb dX3_weigh_15 (lv_at hl 3 rfl) ?_
      refine lv_if_eq (tgt := 55) hx hb dX3_weigh_17 (by decide) (fun c2 => ?_) (fun c2 => ?_)
      · have h := if_t c2 h
        refine lv_iload_n hx hb dX3_weigh_55 rfl (lv_at hl 2 rfl) ?_
        exact gw_reti hx hb hr rfl hlk V (Option.some.inj h) rfl dX3_weigh_56
      · have h := if_f c2 h
        refine lv_iload hx hb dX3_weigh_20 (lv_at hl 3 rfl) ?_
        refine lv_iconst (v := (1 : Int32)) hx hb dX3_weigh_22 (by decide) ?_
        refine lv_iand hx hb dX3_weigh_23 ?_
        refine lv_iconst (v := (1 : Int32)) hx hb dX3_weigh_24 (by decide) ?_
        refine lv_icmp_ne (tgt := 43) hx hb dX3_weigh_25 (by decide) (fun c3 => ?_) (fun c3 => ?_)
        · have h := if_t c3 h
          refine lv_iload hx hb dX3_weigh_43 (lv_at hl 3 rfl) ?_
          refine lv_iconst (v := (1 : Int32)) hx hb dX3_weigh_45 (by decide) ?_
          refine lv_iushr (v := (x4.toUInt32 >>> (Int32.toUInt32 (1 : Int32) &&& Int32.toUInt32 31)).toInt32) hx hb dX3_weigh_46 rfl ?_
          obtain ⟨w4, ew4, h⟩ := gl_e h
          refine gw_nmi ew4 ?_
          refine lv_istore (lv' := [(4, .int w4), (0, .ref (a 1)), (1, .int x1), (3, .int x3), (5, .int x5)]) hx hb dX3_weigh_47 hl (by decide) rfl (fun ls hl => ?_)
          refine lv_iinc (v := (x5 + (1 : Int32))) (lv' := [(5, .int (x5 + (1 : Int32))), (4, .int w4), (0, .ref (a 1)), (1, .int x1), (3, .int x3)]) hx hb dX3_weigh_49 hl (k := 4) rfl rfl (by decide) rfl (fun ls hl => ?_)
          refine lv_goto (tgt := 8) hx hb dX3_weigh_52 (by decide) ?_
          exact ih x1 x3 w4 (x5 + (1 : Int32)) _ _ _ V (lv_sub hl [2, 3, 4, 1, 0] rfl) h
        · have h := if_nn c3 h
          refine lv_iload_n hx hb dX3_weigh_28 rfl (lv_at hl 2 rfl) ?_
          refine lv_aload_n hx hb dX3_weigh_29 rfl (lv_at hl 0 rfl) ?_
          refine va_get (C := RX3) (T := TX3) (N := 5) (ci := 3) hx hb hts igX3 hown C.1 V.1 1 rfl rfl 4 (by decide) (hts _ kt_42) (fun _ h => h) rfl dX3_weigh_30 ?_
          refine lv_iload_n hx hb dX3_weigh_33 rfl (lv_at hl 1 rfl) ?_
          refine lv_bipush (v := (32 : Int32)) hx hb dX3_weigh_34 (by decide) ?_
          refine lv_imul hx hb dX3_weigh_36 ?_
          refine lv_iload hx hb dX3_weigh_37 (lv_at hl 4 rfl) ?_
          refine lv_iadd hx hb dX3_weigh_39 ?_
          obtain ⟨i5, h⟩ := ck_e h
          refine va_iald hx hb C.1 V.1 9 0 rfl rfl i5 dX3_weigh_40 ?_
          refine lv_iadd hx hb dX3_weigh_41 ?_
          obtain ⟨w6, ew6, h⟩ := gl_e h
          refine gw_nmi ew6 ?_
          refine lv_istore_n (lv' := [(3, .int w6), (0, .ref (a 1)), (1, .int x1), (4, .int x4), (5, .int x5)]) hx hb dX3_weigh_42 rfl hl (by decide) rfl (fun ls hl => ?_)
          refine lv_iload hx hb dX3_weigh_43 (lv_at hl 3 rfl) ?_
          refine lv_iconst (v := (1 : Int32)) hx hb dX3_weigh_45 (by decide) ?_
          refine lv_iushr (v := (x4.toUInt32 >>> (Int32.toUInt32 (1 : Int32) &&& Int32.toUInt32 31)).toInt32) hx hb dX3_weigh_46 rfl ?_
          obtain ⟨w7, ew7, h⟩ := gl_e h
          refine gw_nmi ew7 ?_
          refine lv_istore (lv' := [(4, .int w7), (3, .int w6), (0, .ref (a 1)), (1, .int x1), (5, .int x5)]) hx hb dX3_weigh_47 hl (by decide) rfl (fun ls hl => ?_)
          refine lv_iinc (v := (x5 + (1 : Int32))) (lv' := [(5, .int (x5 + (1 : Int32))), (4, .int w7), (3, .int w6), (0, .ref (a 1)), (1, .int x1)]) hx hb dX3_weigh_49 hl (k := 4) rfl rfl (by decide) rfl (fun ls hl => ?_)
          refine lv_goto (tgt := 8) hx hb dX3_weigh_52 (by decide) ?_
          exact ih x1 w6 w7 (x5 + (1 : Int32)) _ _ _ V (lv_sub hl [3, 4, 2, 1, 0] rfl) h
set_option maxHeartbeats 4000000 in
theorem mX3_weigh {l : Launch} {D : va_G} {a : Nat → Nat} {cA : ClassId} {sz : Nat} {u : g_S} {p1 : Int32} {p2 : Int32} {rv : Int32} (h : fcU_weigh u p1 p2 = some rv) : gw_Mi D vwCl [(cA, .int)] (cjA a) gX (cjW a cA) l yX3_weigh wxX3_weigh rmX3_weigh sz u [.ref (a 1), .int p1, .int p2] rv u := by
  refine gw_Mof (Qc := fun z => va_Qi (gw_Pi rv u) (gw_W D vwCl (cjW a cA)) (rg (cjA a) z)) (cc := cX3_weigh) (maxL := 6) (ret := (some .int)) (by decide) rfl ?_
  intro p e s m below meth c B C V
  obtain ⟨hx, hb, hml, hown, hts, hr, hlk⟩ := id B
  have hl := lv_entry ([.ref (a 1), .int p1, .int p2]) (n := 6) (Nat.le_of_ble_eq_true rfl)
  rw [lg_entry_eq]
  generalize (lg_sl ([.ref (a 1), .int p1, .int p2]) ++ List.replicate (6 - (lg_sl ([.ref (a 1), .int p1, .int p2])).length) Slot.unset).toArray = ls at hl ⊢
  have hl : lv_has ls 6 [(0, .ref (a 1)), (1, .int p1), (2, .int p2)] := hl
  unfold fcU_weigh at h
  refine lv_iconst (v := (0 : Int32)) hx hb dX3_weigh_0 (by decide) ?_
  refine lv_istore_n (lv' := [(3, .int (0 : Int32)), (0, .ref (a 1)), (1, .int p1), (2, .int p2)]) hx hb dX3_weigh_1 rfl hl (by decide) rfl (fun ls hl => ?_)
  refine lv_iload_n hx hb dX3_weigh_2 rfl (lv_at hl 3 rfl) ?_
  refine lv_istore (lv' := [(4, .int p2), (3, .int (0 : Int32)), (0, .ref (a 1)), (1, .int p1), (2, .int p2)]) hx hb dX3_weigh_3 hl (by decide) rfl (fun ls hl => ?_)
  refine lv_iconst (v := (0 : Int32)) hx hb dX3_weigh_5 (by decide) ?_
  refine lv_istore (lv' := [(5, .int (0 : Int32)), (4, .int p2), (3, .int (0 : Int32)), (0, .ref (a 1)), (1, .int p1), (2, .int p2)]) hx hb dX3_weigh_6 hl (by decide) rfl (fun ls hl => ?_)
  exact LX3_weigh_8 B C 200 p1 (0 : Int32) p2 (0 : Int32) _ _ _ V (lv_sub hl [3, 4, 2, 1, 0] rfl) h
