set_option maxHeartbeats 4000000 in
theorem LX6_again_6 {p : Program} {l : Launch} {e : Env} {s : State} {m : MethodId} {below : List Frame} {meth : Method} {c : Code} {args : Array Value} {D : va_G} {a : Nat → Nat} {cA : ClassId} (B : gw_B p s m args meth c cX6_again 6 (some .int) RX6 gT) (C : gw_C D vwCl [(cA, .int)] (mdA a) gY s) {rv : Int32} {u : g_S} : ∀ (n : Nat) (x1 : Int32) (x2 : Int32) (x3 : Int32) (x4 : Int32) (x5 : Int32) (H : Heap) (locs : List Loc) (ls : Array Slot), gw_V D vwCl (mdA a) (mdW a cA) s u H locs → lv_has ls 6 [(0, .ref (a 0)), (1, .int x1), (2, .int x2), (3, .int x3), (4, .int x4), (5, .int x5)] → fm_again_6 u n x1 x2 x3 x4 x5 = some rv → W p l e rmX6_again s m args below meth c H locs 0 0 (gw_Ei D vwCl (mdA a) (mdW a cA) below args s rv u) (F0 m 6 ls []) := by
  obtain ⟨hx, hb, hml, hown, hts, hr, hlk⟩ := id B
  intro n
  induction n with
  | zero =>
    intro x1 x2 x3 x4 x5 H locs ls V hl h
    cases h
  | succ n ih =>
    intro x1 x2 x3 x4 x5 H locs ls V hl h
    rw [fm_again_6_s] at h
    refine lv_iload hx hb dX6_again_6 (lv_at hl 5 rfl) ?_
    refine lv_aload_n hx hb dX6_again_8 rfl (lv_at hl 0 rfl) ?_
    refine va_get (C := RX6) (T := TX6) (N := 24) (ci := 5) hx hb hts igX6 hown C.1 V.1 0 rfl rfl 8 (by decide) (hts _ kt_611) (fun _ h => h) rfl dX6_again_9 ?_
    refine lv_icmp_ge (tgt := 54) hx hb dX6_again_12 (by decide) (fun c1 => ?_) (fun c1 => ?_)
    · have h := if_t c1 h
      refine lv_iload hx hb dX6_again_54 (lv_at hl 4 rfl) ?_
      refine lv_if_lt (tgt := 86) hx hb dX6_again_56 (by decide) (fun c2 => ?_) (fun c2 => ?_)
      · have h := if_t c2 h
        refine lv_iconst (v := (-1 : Int32)) hx hb dX6_again_86 (by decide) ?_
        exact gw_reti hx hb hr rfl hlk V (Option.some.inj h) rfl dX6_again_87
      · have h := if_f c2 h
        refine lv_iload_n hx hb dX6_again_59 rfl (lv_at hl 3 rfl) ?_
        refine lv_i2l (v := (Int32.toInt64 x3)) hx hb dX6_again_60 rfl ?_
        refine lv_aload_n hx hb dX6_again_61 rfl (lv_at hl 0 rfl) ?_
        refine va_get (C := RX6) (T := TX6) (N := 24) (ci := 5) hx hb hts igX6 hown C.1 V.1 0 rfl rfl 14 (by decide) (hts _ kt_617) (fun _ h => h) rfl dX6_again_62 ?_
        refine lv_iload hx hb dX6_again_65 (lv_at hl 4 rfl) ?_
        obtain ⟨i3, h⟩ := ck_e h
        refine va_iald hx hb C.1 V.1 12 0 rfl rfl i3 dX6_again_67 ?_
        refine lv_i2l (v := (Int32.toInt64 (u.2 11 x4.toNatClampNeg))) hx hb dX6_again_68 rfl ?_
        refine lv_lsub hx hb dX6_again_69 ?_
        refine lv_aload_n hx hb dX6_again_70 rfl (lv_at hl 0 rfl) ?_
        refine va_get (C := RX6) (T := TX6) (N := 24) (ci := 5) hx hb hts igX6 hown C.1 V.1 0 rfl rfl 2 (by decide) (hts _ kt_605) (fun _ h => h) rfl dX6_again_71 ?_
        refine lv_iload_n hx hb dX6_again_74 rfl (lv_at hl 2 rfl) ?_
        obtain ⟨i4, h⟩ := ck_e h
        refine va_iald hx hb C.1 V.1 2 0 rfl rfl i4 dX6_again_75 ?_
        refine lv_i2l (v := (Int32.toInt64 (u.2 1 x2.toNatClampNeg))) hx hb dX6_again_76 rfl ?_
        refine W.lcmp hx hb dX6_again_77 ?_
        refine lv_if_gt (tgt := 86) hx hb dX6_again_78 (by decide) (fun c5 => ?_) (fun c5 => ?_)
        · have h := if_t c5 h
          refine lv_iconst (v := (-1 : Int32)) hx hb dX6_again_86 (by decide) ?_
          exact gw_reti hx hb hr rfl hlk V (Option.some.inj h) rfl dX6_again_87
        · have h := if_f c5 h
          refine lv_iload hx hb dX6_again_81 (lv_at hl 4 rfl) ?_
          refine lv_goto (tgt := 87) hx hb dX6_again_83 (by decide) ?_
          exact gw_reti hx hb hr rfl hlk V (Option.some.inj h) rfl dX6_again_87
    · have h := if_f c1 h
      refine lv_aload_n hx hb dX6_again_15 rfl (lv_at hl 0 rfl) ?_
      refine va_get (C := RX6) (T := TX6) (N := 24) (ci := 5) hx hb hts igX6 hown C.1 V.1 0 rfl rfl 10 (by decide) (hts _ kt_613) (fun _ h => h) rfl dX6_again_16 ?_
      refine lv_iload hx hb dX6_again_19 (lv_at hl 5 rfl) ?_
      obtain ⟨i6, h⟩ := ck_e h
      refine va_iald hx hb C.1 V.1 8 0 rfl rfl i6 dX6_again_21 ?_
      refine lv_iload_n hx hb dX6_again_22 rfl (lv_at hl 1 rfl) ?_
      refine lv_icmp_ne (tgt := 48) hx hb dX6_again_23 (by decide) (fun c7 => ?_) (fun c7 => ?_)
      · have h := if_t c7 h
        refine lv_iinc (v := (x5 + (1 : Int32))) (lv' := [(5, .int (x5 + (1 : Int32))), (0, .ref (a 0)), (1, .int x1), (2, .int x2), (3, .int x3), (4, .int x4)]) hx hb dX6_again_48 hl (k := 5) rfl rfl (by decide) rfl (fun ls hl => ?_)
        refine lv_goto (tgt := 6) hx hb dX6_again_51 (by decide) ?_
        exact ih x1 x2 x3 x4 (x5 + (1 : Int32)) _ _ _ V (lv_sub hl [1, 2, 3, 4, 5, 0] rfl) h
      · have h := if_nn c7 h
        refine lv_aload_n hx hb dX6_again_26 rfl (lv_at hl 0 rfl) ?_
        refine lv_iload hx hb dX6_again_27 (lv_at hl 5 rfl) ?_
        obtain ⟨v8, hv8, h⟩ := bi_e h
        refine gw_ki V (va_runV (As := [.int x5]) (rest := []) ⟨hx, hb, hml, hown, hts⟩ (mX6_isOpen (D := D) (a := a) (cA := cA) (u := u) hv8) (cwV 1 hts gmdX6_118 rfl rfl rfl (by decide +kernel) ⟨Nat.le_of_ble_eq_true rfl, Nat.le_of_ble_eq_true rfl⟩) (gw_preV (q0 := 0) (ci := 5) gY_ok C V [.int x5] rfl rfl) rfl rfl hl.1 rfl (lv_room (Nat.le_of_ble_eq_true rfl)) dX6_again_29 ⟨Nat.zero_le _, Nat.zero_le _⟩) (fun H locs V => ?_)
        refine lv_if_eq (tgt := 48) hx hb dX6_again_32 (by decide) (fun c9 => ?_) (fun c9 => ?_)
        · have h := if_t c9 h
          refine lv_iinc (v := (x5 + (1 : Int32))) (lv' := [(5, .int (x5 + (1 : Int32))), (0, .ref (a 0)), (1, .int x1), (2, .int x2), (3, .int x3), (4, .int x4)]) hx hb dX6_again_48 hl (k := 5) rfl rfl (by decide) rfl (fun ls hl => ?_)
          refine lv_goto (tgt := 6) hx hb dX6_again_51 (by decide) ?_
          exact ih x1 x2 x3 x4 (x5 + (1 : Int32)) _ _ _ V (lv_sub hl [1, 2, 3, 4, 5, 0] rfl) h
        · have h := if_f c9 h
          refine lv_aload_n hx hb dX6_again_35 rfl (lv_at hl 0 rfl) ?_
          refine lv_iload hx hb dX6_again_36 (lv_at hl 5 rfl) ?_
          obtain ⟨v10, hv10, h⟩ := bi_e h
          refine gw_ki V (va_runV (As := [.int x5]) (rest := []) ⟨hx, hb, hml, hown, hts⟩ (mX6_isHoax (D := D) (a := a) (cA := cA) (u := u) hv10) (cwV 1 hts gmdX6_121 rfl rfl rfl (by decide +kernel) ⟨Nat.le_of_ble_eq_true rfl, Nat.le_of_ble_eq_true rfl⟩) (gw_preV (q0 := 0) (ci := 5) gY_ok C V [.int x5] rfl rfl) rfl rfl hl.1 rfl (lv_room (Nat.le_of_ble_eq_true rfl)) dX6_again_38 ⟨Nat.zero_le _, Nat.zero_le _⟩) (fun H locs V => ?_)
          refine lv_if_ne (tgt := 48) hx hb dX6_again_41 (by decide) (fun c11 => ?_) (fun c11 => ?_)
          · have h := if_t c11 h
            refine lv_iinc (v := (x5 + (1 : Int32))) (lv' := [(5, .int (x5 + (1 : Int32))), (0, .ref (a 0)), (1, .int x1), (2, .int x2), (3, .int x3), (4, .int x4)]) hx hb dX6_again_48 hl (k := 5) rfl rfl (by decide) rfl (fun ls hl => ?_)
            refine lv_goto (tgt := 6) hx hb dX6_again_51 (by decide) ?_
            exact ih x1 x2 x3 x4 (x5 + (1 : Int32)) _ _ _ V (lv_sub hl [1, 2, 3, 4, 5, 0] rfl) h
          · have h := if_nn c11 h
            refine lv_iload hx hb dX6_again_44 (lv_at hl 5 rfl) ?_
            refine lv_istore (lv' := [(4, .int x5), (0, .ref (a 0)), (1, .int x1), (2, .int x2), (3, .int x3), (5, .int x5)]) hx hb dX6_again_46 hl (by decide) rfl (fun ls hl => ?_)
            refine lv_iinc (v := (x5 + (1 : Int32))) (lv' := [(5, .int (x5 + (1 : Int32))), (4, .int x5), (0, .ref (a 0)), (1, .int x1), (2, .int x2), (3, .int x3)]) hx hb dX6_again_48 hl (k := 5) rfl rfl (by decide) rfl (fun ls hl => ?_)
            refine lv_goto (tgt := 6) hx hb dX6_again_51 (by decide) ?_
            exact ih x1 x2 x3 x5 (x5 + (1 : Int32)) _ _ _ V (lv_sub hl [2, 3, 4, 5, 1, 0] rfl) h
set_option maxHeartbeats 4000000 in
theorem mX6_again {l : Launch} {D : va_G} {a : Nat → Nat} {cA : ClassId} {sz : Nat} {u : g_S} {p1 : Int32} {p2 : Int32} {p3 : Int32} {rv : Int32} (h : fm_again u p1 p2 p3 = some rv) : gw_Mi D vwCl [(cA, .int)] (mdA a) gY (mdW a cA) l yX6_again wxX6_again rmX6_again sz u [.ref (a 0), .int p1, .int p2, .int p3] rv u := by
  refine gw_Mof (Qc := fun z => va_Qi (gw_Pi rv u) (gw_W D vwCl (mdW a cA)) (rg (mdA a) z)) (cc := cX6_again) (maxL := 6) (ret := (some .int)) (by decide) rfl ?_
  intro p e s m below meth c B C V
  obtain ⟨hx, hb, hml, hown, hts, hr, hlk⟩ := id B
  have hl := lv_entry ([.ref (a 0), .int p1, .int p2, .int p3]) (n := 6) (Nat.le_of_ble_eq_true rfl)
  rw [lg_entry_eq]
  generalize (lg_sl ([.ref (a 0), .int p1, .int p2, .int p3]) ++ List.replicate (6 - (lg_sl ([.ref (a 0), .int p1, .int p2, .int p3])).length) Slot.unset).toArray = ls at hl ⊢
  have hl : lv_has ls 6 [(0, .ref (a 0)), (1, .int p1), (2, .int p2), (3, .int p3)] := hl
  unfold fm_again at h
  refine lv_iconst (v := (-1 : Int32)) hx hb dX6_again_0 (by decide) ?_
  refine lv_istore (lv' := [(4, .int (-1 : Int32)), (0, .ref (a 0)), (1, .int p1), (2, .int p2), (3, .int p3)]) hx hb dX6_again_1 hl (by decide) rfl (fun ls hl => ?_)
  refine lv_iconst (v := (0 : Int32)) hx hb dX6_again_3 (by decide) ?_
  refine lv_istore (lv' := [(5, .int (0 : Int32)), (4, .int (-1 : Int32)), (0, .ref (a 0)), (1, .int p1), (2, .int p2), (3, .int p3)]) hx hb dX6_again_4 hl (by decide) rfl (fun ls hl => ?_)
  exact LX6_again_6 B C 200 p1 p2 p3 (-1 : Int32) (0 : Int32) _ _ _ V (lv_sub hl [2, 3, 4, 5, 1, 0] rfl) h
set_option maxHeartbeats 4000000 in
theorem LX6_onStretch_3 {p : Program} {l : Launch} {e : Env} {s : State} {m : MethodId} {below : List Frame} {meth : Method} {c : Code} {args : Array Value} {D : va_G} {a : Nat → Nat} {cA : ClassId} (B : gw_B p s m args meth c cX6_onStretch 6 (some .int) RX6 gT) (C : gw_C D vwCl [(cA, .int)] (mdA a) gY s) {rv : Int32} {u : g_S} : ∀ (n : Nat) (x1 : Int32) (x2 : Int32) (x3 : Int32) (x4 : Int32) (H : Heap) (locs : List Loc) (ls : Array Slot), gw_V D vwCl (mdA a) (mdW a cA) s u H locs → lv_has ls 6 [(0, .ref (a 0)), (1, .int x1), (2, .int x2), (3, .int x3), (4, .int x4)] → fm_onStretch_3 u n x1 x2 x3 x4 = some rv → W p l e rmX6_onStretch s m args below meth c H locs 0 0 (gw_Ei D vwCl (mdA a) (mdW a cA) below args s rv u) (F0 m 3 ls []) := by
  obtain ⟨hx, hb, hml, hown, hts, hr, hlk⟩ := id B
  intro n
  induction n with
  | zero =>
    intro x1 x2 x3 x4 H locs ls V hl h
    cases h
  | succ n ih =>
    intro x1 x2 x3 x4 H locs ls V hl h
    rw [fm_onStretch_3_s] at h
    refine lv_iload hx hb dX6_onStretch_3 (lv_at hl 4 rfl) ?_
    refine lv_aload_n hx hb dX6_onStretch_5 rfl (lv_at hl 0 rfl) ?_
    refine va_get (C := RX6) (T := TX6) (N := 24) (ci := 5) hx hb hts igX6 hown C.1 V.1 0 rfl rfl 9 (by decide) (hts _ kt_612) (fun _ h => h) rfl dX6_onStretch_6 ?_
    refine lv_icmp_ge (tgt := 83) hx hb dX6_onStretch_9 (by decide) (fun c1 => ?_) (fun c1 => ?_)
    · have h := if_t c1 h
      refine lv_iconst (v := (-1 : Int32)) hx hb dX6_onStretch_83 (by decide) ?_
      exact gw_reti hx hb hr rfl hlk V (Option.some.inj h) rfl dX6_onStretch_84
    · have h := if_f c1 h
      refine lv_aload_n hx hb dX6_onStretch_12 rfl (lv_at hl 0 rfl) ?_
      refine va_get (C := RX6) (T := TX6) (N := 24) (ci := 5) hx hb hts igX6 hown C.1 V.1 0 rfl rfl 19 (by decide) (hts _ kt_622) (fun _ h => h) rfl dX6_onStretch_13 ?_
      refine lv_iload hx hb dX6_onStretch_16 (lv_at hl 4 rfl) ?_
      obtain ⟨i2, h⟩ := ck_e h
      refine va_iald hx hb C.1 V.1 17 0 rfl rfl i2 dX6_onStretch_18 ?_
      refine lv_if_ne (tgt := 51) hx hb dX6_onStretch_19 (by decide) (fun c3 => ?_) (fun c3 => ?_)
      · have h := if_t c3 h
        refine lv_iconst (v := (0 : Int32)) hx hb dX6_onStretch_51 (by decide) ?_
        refine lv_istore (lv' := [(5, .int (0 : Int32)), (0, .ref (a 0)), (1, .int x1), (2, .int x2), (3, .int x3), (4, .int x4)]) hx hb dX6_onStretch_52 hl (by decide) rfl (fun ls hl => ?_)
        refine lv_iload hx hb dX6_onStretch_54 (lv_at hl 0 rfl) ?_
        refine lv_if_eq (tgt := 77) hx hb dX6_onStretch_56 (by decide) (fun c4 => ?_) (fun c4 => ?_)
        · have h := if_t c4 h
          refine lv_iinc (v := (x4 + (1 : Int32))) (lv' := [(4, .int (x4 + (1 : Int32))), (5, .int (0 : Int32)), (0, .ref (a 0)), (1, .int x1), (2, .int x2), (3, .int x3)]) hx hb dX6_onStretch_77 hl (k := 5) rfl rfl (by decide) rfl (fun ls hl => ?_)
          refine lv_goto (tgt := 3) hx hb dX6_onStretch_80 (by decide) ?_
          exact ih x1 x2 x3 (x4 + (1 : Int32)) _ _ _ V (lv_sub hl [2, 3, 4, 5, 0] rfl) h
        · have h := if_f c4 h
          refine lv_aload_n hx hb dX6_onStretch_59 rfl (lv_at hl 1 rfl) ?_
          refine lv_iload hx hb dX6_onStretch_60 (lv_at hl 5 rfl) ?_
          refine lv_iload_n hx hb dX6_onStretch_62 rfl (lv_at hl 3 rfl) ?_
          refine lv_iload_n hx hb dX6_onStretch_63 rfl (lv_at hl 4 rfl) ?_
          obtain ⟨v5, hv5, h⟩ := bi_e h
          refine gw_ki V (va_runV (As := [.int x4, .int x2, .int x3]) (rest := []) ⟨hx, hb, hml, hown, hts⟩ (mX6_isOn (D := D) (a := a) (cA := cA) (u := u) hv5) (cwV 3 hts gmdX6_128 rfl rfl rfl (by decide +kernel) ⟨Nat.le_of_ble_eq_true rfl, Nat.le_of_ble_eq_true rfl⟩) (gw_preV (q0 := 0) (ci := 5) gY_ok C V [.int x4, .int x2, .int x3] rfl rfl) rfl rfl hl.1 rfl (lv_room (Nat.le_of_ble_eq_true rfl)) dX6_onStretch_64 ⟨Nat.zero_le _, Nat.zero_le _⟩) (fun H locs V => ?_)
          refine lv_if_eq (tgt := 77) hx hb dX6_onStretch_67 (by decide) (fun c6 => ?_) (fun c6 => ?_)
          · have h := if_t c6 h
            refine lv_iinc (v := (x4 + (1 : Int32))) (lv' := [(4, .int (x4 + (1 : Int32))), (5, .int (0 : Int32)), (0, .ref (a 0)), (1, .int x1), (2, .int x2), (3, .int x3)]) hx hb dX6_onStretch_77 hl (k := 5) rfl rfl (by decide) rfl (fun ls hl => ?_)
            refine lv_goto (tgt := 3) hx hb dX6_onStretch_80 (by decide) ?_
            exact ih x1 x2 x3 (x4 + (1 : Int32)) _ _ _ V (lv_sub hl [2, 3, 4, 5, 0] rfl) h
          · have h := if_f c6 h
            refine lv_aload_n hx hb dX6_onStretch_70 rfl (lv_at hl 1 rfl) ?_
            refine lv_iload hx hb dX6_onStretch_71 (lv_at hl 5 rfl) ?_
            obtain ⟨v7, hv7, h⟩ := bi_e h
            refine gw_ki V (va_runV (As := [.int x4]) (rest := []) ⟨hx, hb, hml, hown, hts⟩ (mX6_firstOf (D := D) (a := a) (cA := cA) (u := u) hv7) (cwV 1 hts gmdX6_124 rfl rfl rfl (by decide +kernel) ⟨Nat.le_of_ble_eq_true rfl, Nat.le_of_ble_eq_true rfl⟩) (gw_preV (q0 := 0) (ci := 5) gY_ok C V [.int x4] rfl rfl) rfl rfl hl.1 rfl (lv_room (Nat.le_of_ble_eq_true rfl)) dX6_onStretch_73 ⟨Nat.zero_le _, Nat.zero_le _⟩) (fun H locs V => ?_)
            exact gw_reti hx hb hr rfl hlk V (Option.some.inj h) rfl dX6_onStretch_76
      · have h := if_nn c3 h
        refine lv_aload_n hx hb dX6_onStretch_22 rfl (lv_at hl 0 rfl) ?_
        refine va_get (C := RX6) (T := TX6) (N := 24) (ci := 5) hx hb hts igX6 hown C.1 V.1 0 rfl rfl 20 (by decide) (hts _ kt_623) (fun _ h => h) rfl dX6_onStretch_23 ?_
        refine lv_iload hx hb dX6_onStretch_26 (lv_at hl 4 rfl) ?_
        obtain ⟨i8, h⟩ := ck_e h
        refine va_iald hx hb C.1 V.1 18 0 rfl rfl i8 dX6_onStretch_28 ?_
        refine lv_if_lt (tgt := 51) hx hb dX6_onStretch_29 (by decide) (fun c9 => ?_) (fun c9 => ?_)
        · have h := if_t c9 h
          refine lv_iconst (v := (0 : Int32)) hx hb dX6_onStretch_51 (by decide) ?_
          refine lv_istore (lv' := [(5, .int (0 : Int32)), (0, .ref (a 0)), (1, .int x1), (2, .int x2), (3, .int x3), (4, .int x4)]) hx hb dX6_onStretch_52 hl (by decide) rfl (fun ls hl => ?_)
          refine lv_iload hx hb dX6_onStretch_54 (lv_at hl 0 rfl) ?_
          refine lv_if_eq (tgt := 77) hx hb dX6_onStretch_56 (by decide) (fun c10 => ?_) (fun c10 => ?_)
          · have h := if_t c10 h
            refine lv_iinc (v := (x4 + (1 : Int32))) (lv' := [(4, .int (x4 + (1 : Int32))), (5, .int (0 : Int32)), (0, .ref (a 0)), (1, .int x1), (2, .int x2), (3, .int x3)]) hx hb dX6_onStretch_77 hl (k := 5) rfl rfl (by decide) rfl (fun ls hl => ?_)
            refine lv_goto (tgt := 3) hx hb dX6_onStretch_80 (by decide) ?_
            exact ih x1 x2 x3 (x4 + (1 : Int32)) _ _ _ V (lv_sub hl [2, 3, 4, 5, 0] rfl) h
          · have h := if_f c10 h
            refine lv_aload_n hx hb dX6_onStretch_59 rfl (lv_at hl 1 rfl) ?_
            refine lv_iload hx hb dX6_onStretch_60 (lv_at hl 5 rfl) ?_
            refine lv_iload_n hx hb dX6_onStretch_62 rfl (lv_at hl 3 rfl) ?_
            refine lv_iload_n hx hb dX6_onStretch_63 rfl (lv_at hl 4 rfl) ?_
            obtain ⟨v11, hv11, h⟩ := bi_e h
            refine gw_ki V (va_runV (As := [.int x4, .int x2, .int x3]) (rest := []) ⟨hx, hb, hml, hown, hts⟩ (mX6_isOn (D := D) (a := a) (cA := cA) (u := u) hv11) (cwV 3 hts gmdX6_128 rfl rfl rfl (by decide +kernel) ⟨Nat.le_of_ble_eq_true rfl, Nat.le_of_ble_eq_true rfl⟩) (gw_preV (q0 := 0) (ci := 5) gY_ok C V [.int x4, .int x2, .int x3] rfl rfl) rfl rfl hl.1 rfl (lv_room (Nat.le_of_ble_eq_true rfl)) dX6_onStretch_64 ⟨Nat.zero_le _, Nat.zero_le _⟩) (fun H locs V => ?_)
            refine lv_if_eq (tgt := 77) hx hb dX6_onStretch_67 (by decide) (fun c12 => ?_) (fun c12 => ?_)
            · have h := if_t c12 h
              refine lv_iinc (v := (x4 + (1 : Int32))) (lv' := [(4, .int (x4 + (1 : Int32))), (5, .int (0 : Int32)), (0, .ref (a 0)), (1, .int x1), (2, .int x2), (3, .int x3)]) hx hb dX6_onStretch_77 hl (k := 5) rfl rfl (by decide) rfl (fun ls hl => ?_)
              refine lv_goto (tgt := 3) hx hb dX6_onStretch_80 (by decide) ?_
              exact ih x1 x2 x3 (x4 + (1 : Int32)) _ _ _ V (lv_sub hl [2, 3, 4, 5, 0] rfl) h
            · have h := if_f c12 h
              refine lv_aload_n hx hb dX6_onStretch_70 rfl (lv_at hl 1 rfl) ?_
              refine lv_iload hx hb dX6_onStretch_71 (lv_at hl 5 rfl) ?_
              obtain ⟨v13, hv13, h⟩ := bi_e h
              refine gw_ki V (va_runV (As := [.int x4]) (rest := []) ⟨hx, hb, hml, hown, hts⟩ (mX6_firstOf (D := D) (a := a) (cA := cA) (u := u) hv13) (cwV 1 hts gmdX6_124 rfl rfl rfl (by decide +kernel) ⟨Nat.le_of_ble_eq_true rfl, Nat.le_of_ble_eq_true rfl⟩) (gw_preV (q0 := 0) (ci := 5) gY_ok C V [.int x4] rfl rfl) rfl rfl hl.1 rfl (lv_room (Nat.le_of_ble_eq_true rfl)) dX6_onStretch_73 ⟨Nat.zero_le _, Nat.zero_le _⟩) (fun H locs V => ?_)
              exact gw_reti hx hb hr rfl hlk V (Option.some.inj h) rfl dX6_onStretch_76
        · have h := if_f c9 h
          refine lv_aload_n hx hb dX6_onStretch_32 rfl (lv_at hl 0 rfl) ?_
          refine va_get (C := RX6) (T := TX6) (N := 24) (ci := 5) hx hb hts igX6 hown C.1 V.1 0 rfl rfl 11 (by decide) (hts _ kt_614) (fun _ h => h) rfl dX6_onStretch_33 ?_
          refine lv_aload_n hx hb dX6_onStretch_36 rfl (lv_at hl 0 rfl) ?_
          refine lv_iload hx hb dX6_onStretch_37 (lv_at hl 4 rfl) ?_
          obtain ⟨v14, hv14, h⟩ := bi_e h
          refine gw_ki V (va_runV (As := [.int x4]) (rest := [.ref (a 9)]) ⟨hx, hb, hml, hown, hts⟩ (mX6_firstOf (D := D) (a := a) (cA := cA) (u := u) hv14) (cwV 1 hts gmdX6_124 rfl rfl rfl (by decide +kernel) ⟨Nat.le_of_ble_eq_true rfl, Nat.le_of_ble_eq_true rfl⟩) (gw_preV (q0 := 0) (ci := 5) gY_ok C V [.int x4] rfl rfl) rfl rfl hl.1 rfl (lv_room (Nat.le_of_ble_eq_true rfl)) dX6_onStretch_39 ⟨Nat.zero_le _, Nat.zero_le _⟩) (fun H locs V => ?_)
          obtain ⟨i15, h⟩ := ck_e h
          refine va_iald hx hb C.1 V.1 9 0 rfl rfl i15 dX6_onStretch_42 ?_
          refine lv_iload_n hx hb dX6_onStretch_43 rfl (lv_at hl 1 rfl) ?_
          refine lv_icmp_ne (tgt := 51) hx hb dX6_onStretch_44 (by decide) (fun c16 => ?_) (fun c16 => ?_)
          · have h := if_t c16 h
            refine lv_iconst (v := (0 : Int32)) hx hb dX6_onStretch_51 (by decide) ?_
            refine lv_istore (lv' := [(5, .int (0 : Int32)), (0, .ref (a 0)), (1, .int x1), (2, .int x2), (3, .int x3), (4, .int x4)]) hx hb dX6_onStretch_52 hl (by decide) rfl (fun ls hl => ?_)
            refine lv_iload hx hb dX6_onStretch_54 (lv_at hl 0 rfl) ?_
            refine lv_if_eq (tgt := 77) hx hb dX6_onStretch_56 (by decide) (fun c17 => ?_) (fun c17 => ?_)
            · have h := if_t c17 h
              refine lv_iinc (v := (x4 + (1 : Int32))) (lv' := [(4, .int (x4 + (1 : Int32))), (5, .int (0 : Int32)), (0, .ref (a 0)), (1, .int x1), (2, .int x2), (3, .int x3)]) hx hb dX6_onStretch_77 hl (k := 5) rfl rfl (by decide) rfl (fun ls hl => ?_)
              refine lv_goto (tgt := 3) hx hb dX6_onStretch_80 (by decide) ?_
              exact ih x1 x2 x3 (x4 + (1 : Int32)) _ _ _ V (lv_sub hl [2, 3, 4, 5, 0] rfl) h
            · have h := if_f c17 h
              refine lv_aload_n hx hb dX6_onStretch_59 rfl (lv_at hl 1 rfl) ?_
              refine lv_iload hx hb dX6_onStretch_60 (lv_at hl 5 rfl) ?_
              refine lv_iload_n hx hb dX6_onStretch_62 rfl (lv_at hl 3 rfl) ?_
              refine lv_iload_n hx hb dX6_onStretch_63 rfl (lv_at hl 4 rfl) ?_
              obtain ⟨v18, hv18, h⟩ := bi_e h
              refine gw_ki V (va_runV (As := [.int x4, .int x2, .int x3]) (rest := []) ⟨hx, hb, hml, hown, hts⟩ (mX6_isOn (D := D) (a := a) (cA := cA) (u := u) hv18) (cwV 3 hts gmdX6_128 rfl rfl rfl (by decide +kernel) ⟨Nat.le_of_ble_eq_true rfl, Nat.le_of_ble_eq_true rfl⟩) (gw_preV (q0 := 0) (ci := 5) gY_ok C V [.int x4, .int x2, .int x3] rfl rfl) rfl rfl hl.1 rfl (lv_room (Nat.le_of_ble_eq_true rfl)) dX6_onStretch_64 ⟨Nat.zero_le _, Nat.zero_le _⟩) (fun H locs V => ?_)
              refine lv_if_eq (tgt := 77) hx hb dX6_onStretch_67 (by decide) (fun c19 => ?_) (fun c19 => ?_)
              · have h := if_t c19 h
                refine lv_iinc (v := (x4 + (1 : Int32))) (lv' := [(4, .int (x4 + (1 : Int32))), (5, .int (0 : Int32)), (0, .ref (a 0)), (1, .int x1), (2, .int x2), (3, .int x3)]) hx hb dX6_onStretch_77 hl (k := 5) rfl rfl (by decide) rfl (fun ls hl => ?_)
                refine lv_goto (tgt := 3) hx hb dX6_onStretch_80 (by decide) ?_
                exact ih x1 x2 x3 (x4 + (1 : Int32)) _ _ _ V (lv_sub hl [2, 3, 4, 5, 0] rfl) h
              · have h := if_f c19 h
                refine lv_aload_n hx hb dX6_onStretch_70 rfl (lv_at hl 1 rfl) ?_
                refine lv_iload hx hb dX6_onStretch_71 (lv_at hl 5 rfl) ?_
                obtain ⟨v20, hv20, h⟩ := bi_e h
                refine gw_ki V (va_runV (As := [.int x4]) (rest := []) ⟨hx, hb, hml, hown, hts⟩ (mX6_firstOf (D := D) (a := a) (cA := cA) (u := u) hv20) (cwV 1 hts gmdX6_124 rfl rfl rfl (by decide +kernel) ⟨Nat.le_of_ble_eq_true rfl, Nat.le_of_ble_eq_true rfl⟩) (gw_preV (q0 := 0) (ci := 5) gY_ok C V [.int x4] rfl rfl) rfl rfl hl.1 rfl (lv_room (Nat.le_of_ble_eq_true rfl)) dX6_onStretch_73 ⟨Nat.zero_le _, Nat.zero_le _⟩) (fun H locs V => ?_)
                exact gw_reti hx hb hr rfl hlk V (Option.some.inj h) rfl dX6_onStretch_76
          · have h := if_nn c16 h
            refine lv_iconst (v := (1 : Int32)) hx hb dX6_onStretch_47 (by decide) ?_
            refine lv_goto (tgt := 52) hx hb dX6_onStretch_48 (by decide) ?_
            refine lv_istore (lv' := [(5, .int (1 : Int32)), (0, .ref (a 0)), (1, .int x1), (2, .int x2), (3, .int x3), (4, .int x4)]) hx hb dX6_onStretch_52 hl (by decide) rfl (fun ls hl => ?_)
            refine lv_iload hx hb dX6_onStretch_54 (lv_at hl 0 rfl) ?_
            refine lv_if_eq (tgt := 77) hx hb dX6_onStretch_56 (by decide) (fun c21 => ?_) (fun c21 => ?_)
            · have h := if_t c21 h
              refine lv_iinc (v := (x4 + (1 : Int32))) (lv' := [(4, .int (x4 + (1 : Int32))), (5, .int (1 : Int32)), (0, .ref (a 0)), (1, .int x1), (2, .int x2), (3, .int x3)]) hx hb dX6_onStretch_77 hl (k := 5) rfl rfl (by decide) rfl (fun ls hl => ?_)
              refine lv_goto (tgt := 3) hx hb dX6_onStretch_80 (by decide) ?_
              exact ih x1 x2 x3 (x4 + (1 : Int32)) _ _ _ V (lv_sub hl [2, 3, 4, 5, 0] rfl) h
            · have h := if_f c21 h
              refine lv_aload_n hx hb dX6_onStretch_59 rfl (lv_at hl 1 rfl) ?_
              refine lv_iload hx hb dX6_onStretch_60 (lv_at hl 5 rfl) ?_
              refine lv_iload_n hx hb dX6_onStretch_62 rfl (lv_at hl 3 rfl) ?_
              refine lv_iload_n hx hb dX6_onStretch_63 rfl (lv_at hl 4 rfl) ?_
              obtain ⟨v22, hv22, h⟩ := bi_e h
              refine gw_ki V (va_runV (As := [.int x4, .int x2, .int x3]) (rest := []) ⟨hx, hb, hml, hown, hts⟩ (mX6_isOn (D := D) (a := a) (cA := cA) (u := u) hv22) (cwV 3 hts gmdX6_128 rfl rfl rfl (by decide +kernel) ⟨Nat.le_of_ble_eq_true rfl, Nat.le_of_ble_eq_true rfl⟩) (gw_preV (q0 := 0) (ci := 5) gY_ok C V [.int x4, .int x2, .int x3] rfl rfl) rfl rfl hl.1 rfl (lv_room (Nat.le_of_ble_eq_true rfl)) dX6_onStretch_64 ⟨Nat.zero_le _, Nat.zero_le _⟩) (fun H locs V => ?_)
              refine lv_if_eq (tgt := 77) hx hb dX6_onStretch_67 (by decide) (fun c23 => ?_) (fun c23 => ?_)
              · have h := if_t c23 h
                refine lv_iinc (v := (x4 + (1 : Int32))) (lv' := [(4, .int (x4 + (1 : Int32))), (5, .int (1 : Int32)), (0, .ref (a 0)), (1, .int x1), (2, .int x2), (3, .int x3)]) hx hb dX6_onStretch_77 hl (k := 5) rfl rfl (by decide) rfl (fun ls hl => ?_)
                refine lv_goto (tgt := 3) hx hb dX6_onStretch_80 (by decide) ?_
                exact ih x1 x2 x3 (x4 + (1 : Int32)) _ _ _ V (lv_sub hl [2, 3, 4, 5, 0] rfl) h
              · have h := if_f c23 h
                refine lv_aload_n hx hb dX6_onStretch_70 rfl (lv_at hl 1 rfl) ?_
                refine lv_iload hx hb dX6_onStretch_71 (lv_at hl 5 rfl) ?_
                obtain ⟨v24, hv24, h⟩ := bi_e h
                refine gw_ki V (va_runV (As := [.int x4]) (rest := []) ⟨hx, hb, hml, hown, hts⟩ (mX6_firstOf (D := D) (a := a) (cA := cA) (u := u) hv24) (cwV 1 hts gmdX6_124 rfl rfl rfl (by decide +kernel) ⟨Nat.le_of_ble_eq_true rfl, Nat.le_of_ble_eq_true rfl⟩) (gw_preV (q0 := 0) (ci := 5) gY_ok C V [.int x4] rfl rfl) rfl rfl hl.1 rfl (lv_room (Nat.le_of_ble_eq_true rfl)) dX6_onStretch_73 ⟨Nat.zero_le _, Nat.zero_le _⟩) (fun H locs V => ?_)
                exact gw_reti hx hb hr rfl hlk V (Option.some.inj h) rfl dX6_onStretch_76
set_option maxHeartbeats 4000000 in
theorem mX6_onStretch {l : Launch} {D : va_G} {a : Nat → Nat} {cA : ClassId} {sz : Nat} {u : g_S} {p1 : Int32} {p2 : Int32} {p3 : Int32} {rv : Int32} (h : fm_onStretch u p1 p2 p3 = some rv) : gw_Mi D vwCl [(cA, .int)] (mdA a) gY (mdW a cA) l yX6_onStretch wxX6_onStretch rmX6_onStretch sz u [.ref (a 0), .int p1, .int p2, .int p3] rv u := by
  refine gw_Mof (Qc := fun z => va_Qi (gw_Pi rv u) (gw_W D vwCl (mdW a cA)) (rg (mdA a) z)) (cc := cX6_onStretch) (maxL := 6) (ret := (some .int)) (by decide) rfl ?_
  intro p e s m below meth c B C V
  obtain ⟨hx, hb, hml, hown, hts, hr, hlk⟩ := id B
  have hl := lv_entry ([.ref (a 0), .int p1, .int p2, .int p3]) (n := 6) (Nat.le_of_ble_eq_true rfl)
  rw [lg_entry_eq]
  generalize (lg_sl ([.ref (a 0), .int p1, .int p2, .int p3]) ++ List.replicate (6 - (lg_sl ([.ref (a 0), .int p1, .int p2, .int p3])).length) Slot.unset).toArray = ls at hl ⊢
  have hl : lv_has ls 6 [(0, .ref (a 0)), (1, .int p1), (2, .int p2), (3, .int p3)] := hl
  unfold fm_onStretch at h
  refine lv_iconst (v := (0 : Int32)) hx hb dX6_onStretch_0 (by decide) ?_
  refine lv_istore (lv' := [(4, .int (0 : Int32)), (0, .ref (a 0)), (1, .int p1), (2, .int p2), (3, .int p3)]) hx hb dX6_onStretch_1 hl (by decide) rfl (fun ls hl => ?_)
  exact LX6_onStretch_3 B C 200 p1 p2 p3 (0 : Int32) _ _ _ V (lv_sub hl [1, 2, 3, 4, 0] rfl) h
set_option maxHeartbeats 4000000 in
theorem LX6_isBetter_61 {p : Program} {l : Launch} {e : Env} {s : State} {m : MethodId} {below : List Frame} {meth : Method} {c : Code} {args : Array Value} {D : va_G} {a : Nat → Nat} {cA : ClassId} (B : gw_B p s m args meth c cX6_isBetter 6 (some .boolean) RX6 gT) (C : gw_C D vwCl [(cA, .int)] (mdA a) gY s) {rv : Int32} {u : g_S} : ∀ (x1 : Int32) (x2 : Int32) (x3 : Int32) (x5 : Int32) (H : Heap) (locs : List Loc) (ls : Array Slot), gw_V D vwCl (mdA a) (mdW a cA) s u H locs → lv_has ls 6 [(0, .ref (a 0)), (1, .int x1), (2, .int x2), (3, .int x3), (5, .int x5)] → fm_isBetter_61 u x1 x2 x3 x5 = some rv → W p l e rmX6_isBetter s m args below meth c H locs 0 0 (gw_Ei D vwCl (mdA a) (mdW a cA) below args s rv u) (F0 m 61 ls []) := by
  obtain ⟨hx, hb, hml, hown, hts, hr, hlk⟩ := id B
  intro x1 x2 x3 x5 H locs ls V hl h
  unfold fm_isBetter_61 at h
  refine lv_aload_n hx hb dX6_isBetter_61 rfl (lv_at hl 0 rfl) ?_
  refine lv_aload_n hx hb dX6_isBetter_62 rfl (lv_at hl 0 rfl) ?_
  refine va_get (C := RX6) (T := TX6) (N := 24) (ci := 5) hx hb hts igX6 hown C.1 V.1 0 rfl rfl 13 (by decide) (hts _ kt_616) (fun _ h => h) rfl dX6_isBetter_63 ?_
  refine lv_iload_n hx hb dX6_isBetter_66 rfl (lv_at hl 1 rfl) ?_
  obtain ⟨i1, h⟩ := ck_e h
  refine va_iald hx hb C.1 V.1 11 0 rfl rfl i1 dX6_isBetter_67 ?_
  refine lv_iload hx hb dX6_isBetter_68 (lv_at hl 4 rfl) ?_
  refine lv_iand hx hb dX6_isBetter_70 ?_
  refine lv_iload_n hx hb dX6_isBetter_71 rfl (lv_at hl 3 rfl) ?_
  obtain ⟨v2, hv2, h⟩ := bi_e h
  refine gw_ki V (va_runV (As := [.int ((u.2 10 x1.toNatClampNeg) &&& x5), .int x3]) (rest := []) ⟨hx, hb, hml, hown, hts⟩ (mX6_sum (D := D) (a := a) (cA := cA) (u := u) hv2) (cwV 2 hts gmdX6_100 rfl rfl rfl (by decide +kernel) ⟨Nat.le_of_ble_eq_true rfl, Nat.le_of_ble_eq_true rfl⟩) (gw_preV (q0 := 0) (ci := 5) gY_ok C V [.int ((u.2 10 x1.toNatClampNeg) &&& x5), .int x3] rfl rfl) rfl rfl hl.1 rfl (lv_room (Nat.le_of_ble_eq_true rfl)) dX6_isBetter_72 ⟨Nat.zero_le _, Nat.zero_le _⟩) (fun H locs V => ?_)
  refine lv_aload_n hx hb dX6_isBetter_75 rfl (lv_at hl 0 rfl) ?_
  refine lv_aload_n hx hb dX6_isBetter_76 rfl (lv_at hl 0 rfl) ?_
  refine va_get (C := RX6) (T := TX6) (N := 24) (ci := 5) hx hb hts igX6 hown C.1 V.1 0 rfl rfl 13 (by decide) (hts _ kt_616) (fun _ h => h) rfl dX6_isBetter_77 ?_
  refine lv_iload_n hx hb dX6_isBetter_80 rfl (lv_at hl 2 rfl) ?_
  obtain ⟨i3, h⟩ := ck_e h
  refine va_iald hx hb C.1 V.1 11 0 rfl rfl i3 dX6_isBetter_81 ?_
  refine lv_iload hx hb dX6_isBetter_82 (lv_at hl 4 rfl) ?_
  refine lv_ior hx hb dX6_isBetter_84 ?_
  refine lv_iload_n hx hb dX6_isBetter_85 rfl (lv_at hl 3 rfl) ?_
  obtain ⟨v4, hv4, h⟩ := bi_e h
  refine gw_ki V (va_runV (As := [.int ((u.2 10 x2.toNatClampNeg) ||| x5), .int x3]) (rest := [.int v2]) ⟨hx, hb, hml, hown, hts⟩ (mX6_sum (D := D) (a := a) (cA := cA) (u := u) hv4) (cwV 2 hts gmdX6_100 rfl rfl rfl (by decide +kernel) ⟨Nat.le_of_ble_eq_true rfl, Nat.le_of_ble_eq_true rfl⟩) (gw_preV (q0 := 0) (ci := 5) gY_ok C V [.int ((u.2 10 x2.toNatClampNeg) ||| x5), .int x3] rfl rfl) rfl rfl hl.1 rfl (lv_room (Nat.le_of_ble_eq_true rfl)) dX6_isBetter_86 ⟨Nat.zero_le _, Nat.zero_le _⟩) (fun H locs V => ?_)
  refine lv_imul hx hb dX6_isBetter_89 ?_
  refine lv_aload_n hx hb dX6_isBetter_90 rfl (lv_at hl 0 rfl) ?_
  refine lv_aload_n hx hb dX6_isBetter_91 rfl (lv_at hl 0 rfl) ?_
  refine va_get (C := RX6) (T := TX6) (N := 24) (ci := 5) hx hb hts igX6 hown C.1 V.1 0 rfl rfl 13 (by decide) (hts _ kt_616) (fun _ h => h) rfl dX6_isBetter_92 ?_
  refine lv_iload_n hx hb dX6_isBetter_95 rfl (lv_at hl 2 rfl) ?_
  obtain ⟨i5, h⟩ := ck_e h
  refine va_iald hx hb C.1 V.1 11 0 rfl rfl i5 dX6_isBetter_96 ?_
  refine lv_iload hx hb dX6_isBetter_97 (lv_at hl 4 rfl) ?_
  refine lv_iand hx hb dX6_isBetter_99 ?_
  refine lv_iload_n hx hb dX6_isBetter_100 rfl (lv_at hl 3 rfl) ?_
  obtain ⟨v6, hv6, h⟩ := bi_e h
  refine gw_ki V (va_runV (As := [.int ((u.2 10 x2.toNatClampNeg) &&& x5), .int x3]) (rest := [.int (v2 * v4)]) ⟨hx, hb, hml, hown, hts⟩ (mX6_sum (D := D) (a := a) (cA := cA) (u := u) hv6) (cwV 2 hts gmdX6_100 rfl rfl rfl (by decide +kernel) ⟨Nat.le_of_ble_eq_true rfl, Nat.le_of_ble_eq_true rfl⟩) (gw_preV (q0 := 0) (ci := 5) gY_ok C V [.int ((u.2 10 x2.toNatClampNeg) &&& x5), .int x3] rfl rfl) rfl rfl hl.1 rfl (lv_room (Nat.le_of_ble_eq_true rfl)) dX6_isBetter_101 ⟨Nat.zero_le _, Nat.zero_le _⟩) (fun H locs V => ?_)
  refine lv_aload_n hx hb dX6_isBetter_104 rfl (lv_at hl 0 rfl) ?_
  refine lv_aload_n hx hb dX6_isBetter_105 rfl (lv_at hl 0 rfl) ?_
  refine va_get (C := RX6) (T := TX6) (N := 24) (ci := 5) hx hb hts igX6 hown C.1 V.1 0 rfl rfl 13 (by decide) (hts _ kt_616) (fun _ h => h) rfl dX6_isBetter_106 ?_
  refine lv_iload_n hx hb dX6_isBetter_109 rfl (lv_at hl 1 rfl) ?_
  obtain ⟨i7, h⟩ := ck_e h
  refine va_iald hx hb C.1 V.1 11 0 rfl rfl i7 dX6_isBetter_110 ?_
  refine lv_iload hx hb dX6_isBetter_111 (lv_at hl 4 rfl) ?_
  refine lv_ior hx hb dX6_isBetter_113 ?_
  refine lv_iload_n hx hb dX6_isBetter_114 rfl (lv_at hl 3 rfl) ?_
  obtain ⟨v8, hv8, h⟩ := bi_e h
  refine gw_ki V (va_runV (As := [.int ((u.2 10 x1.toNatClampNeg) ||| x5), .int x3]) (rest := [.int v6, .int (v2 * v4)]) ⟨hx, hb, hml, hown, hts⟩ (mX6_sum (D := D) (a := a) (cA := cA) (u := u) hv8) (cwV 2 hts gmdX6_100 rfl rfl rfl (by decide +kernel) ⟨Nat.le_of_ble_eq_true rfl, Nat.le_of_ble_eq_true rfl⟩) (gw_preV (q0 := 0) (ci := 5) gY_ok C V [.int ((u.2 10 x1.toNatClampNeg) ||| x5), .int x3] rfl rfl) rfl rfl hl.1 rfl (lv_room (Nat.le_of_ble_eq_true rfl)) dX6_isBetter_115 ⟨Nat.zero_le _, Nat.zero_le _⟩) (fun H locs V => ?_)
  refine lv_imul hx hb dX6_isBetter_118 ?_
  refine lv_icmp_le (tgt := 126) hx hb dX6_isBetter_119 (by decide) (fun c9 => ?_) (fun c9 => ?_)
  · have h := if_t c9 h
    refine lv_iconst (v := (0 : Int32)) hx hb dX6_isBetter_126 (by decide) ?_
    exact gw_reti hx hb hr (nar_z (Or.inl rfl)) hlk V (Option.some.inj h) rfl dX6_isBetter_127
  · have h := if_f c9 h
    refine lv_iconst (v := (1 : Int32)) hx hb dX6_isBetter_122 (by decide) ?_
    refine lv_goto (tgt := 127) hx hb dX6_isBetter_123 (by decide) ?_
    exact gw_reti hx hb hr (nar_z (Or.inr rfl)) hlk V (Option.some.inj h) rfl dX6_isBetter_127
set_option maxHeartbeats 4000000 in
theorem mX6_isBetter {l : Launch} {D : va_G} {a : Nat → Nat} {cA : ClassId} {sz : Nat} {u : g_S} {p1 : Int32} {p2 : Int32} {p3 : Int32} {p4 : Int32} {p5 : Int32} {rv : Int32} (h : fm_isBetter u p1 p2 p3 p4 p5 = some rv) : gw_Mi D vwCl [(cA, .int)] (mdA a) gY (mdW a cA) l yX6_isBetter wxX6_isBetter rmX6_isBetter sz u [.ref (a 0), .int p1, .int p2, .int p3, .int p4, .int p5] rv u := by
  refine gw_Mof (Qc := fun z => va_Qi (gw_Pi rv u) (gw_W D vwCl (mdW a cA)) (rg (mdA a) z)) (cc := cX6_isBetter) (maxL := 6) (ret := (some .boolean)) (by decide) rfl ?_
  intro p e s m below meth c B C V
  obtain ⟨hx, hb, hml, hown, hts, hr, hlk⟩ := id B
  have hl := lv_entry ([.ref (a 0), .int p1, .int p2, .int p3, .int p4, .int p5]) (n := 6) (Nat.le_of_ble_eq_true rfl)
  rw [lg_entry_eq]
  generalize (lg_sl ([.ref (a 0), .int p1, .int p2, .int p3, .int p4, .int p5]) ++ List.replicate (6 - (lg_sl ([.ref (a 0), .int p1, .int p2, .int p3, .int p4, .int p5])).length) Slot.unset).toArray = ls at hl ⊢
  have hl : lv_has ls 6 [(0, .ref (a 0)), (1, .int p1), (2, .int p2), (3, .int p3), (4, .int p4), (5, .int p5)] := hl
  unfold fm_isBetter at h
  refine lv_iload_n hx hb dX6_isBetter_0 rfl (lv_at hl 2 rfl) ?_
  refine lv_if_ge (tgt := 6) hx hb dX6_isBetter_1 (by decide) (fun c1 => ?_) (fun c1 => ?_)
  · have h := if_t c1 h
    refine lv_iload hx hb dX6_isBetter_6 (lv_at hl 4 rfl) ?_
    refine lv_if_lt (tgt := 61) hx hb dX6_isBetter_8 (by decide) (fun c2 => ?_) (fun c2 => ?_)
    · have h := if_t c2 h
      exact LX6_isBetter_61 B C p1 p2 p3 p5 _ _ _ V (lv_sub hl [0, 1, 2, 3, 5] rfl) h
    · have h := if_f c2 h
      refine lv_aload_n hx hb dX6_isBetter_11 rfl (lv_at hl 0 rfl) ?_
      refine va_get (C := RX6) (T := TX6) (N := 24) (ci := 5) hx hb hts igX6 hown C.1 V.1 0 rfl rfl 12 (by decide) (hts _ kt_615) (fun _ h => h) rfl dX6_isBetter_12 ?_
      refine lv_iload_n hx hb dX6_isBetter_15 rfl (lv_at hl 1 rfl) ?_
      obtain ⟨i3, h⟩ := ck_e h
      refine va_iald hx hb C.1 V.1 10 0 rfl rfl i3 dX6_isBetter_16 ?_
      refine lv_if_lt (tgt := 61) hx hb dX6_isBetter_17 (by decide) (fun c4 => ?_) (fun c4 => ?_)
      · have h := if_t c4 h
        exact LX6_isBetter_61 B C p1 p2 p3 p5 _ _ _ V (lv_sub hl [0, 1, 2, 3, 5] rfl) h
      · have h := if_f c4 h
        refine lv_aload_n hx hb dX6_isBetter_20 rfl (lv_at hl 0 rfl) ?_
        refine va_get (C := RX6) (T := TX6) (N := 24) (ci := 5) hx hb hts igX6 hown C.1 V.1 0 rfl rfl 12 (by decide) (hts _ kt_615) (fun _ h => h) rfl dX6_isBetter_21 ?_
        refine lv_iload_n hx hb dX6_isBetter_24 rfl (lv_at hl 2 rfl) ?_
        obtain ⟨i5, h⟩ := ck_e h
        refine va_iald hx hb C.1 V.1 10 0 rfl rfl i5 dX6_isBetter_25 ?_
        refine lv_if_lt (tgt := 61) hx hb dX6_isBetter_26 (by decide) (fun c6 => ?_) (fun c6 => ?_)
        · have h := if_t c6 h
          exact LX6_isBetter_61 B C p1 p2 p3 p5 _ _ _ V (lv_sub hl [0, 1, 2, 3, 5] rfl) h
        · have h := if_f c6 h
          refine lv_aload_n hx hb dX6_isBetter_29 rfl (lv_at hl 0 rfl) ?_
          refine va_get (C := RX6) (T := TX6) (N := 24) (ci := 5) hx hb hts igX6 hown C.1 V.1 0 rfl rfl 12 (by decide) (hts _ kt_615) (fun _ h => h) rfl dX6_isBetter_30 ?_
          refine lv_iload_n hx hb dX6_isBetter_33 rfl (lv_at hl 1 rfl) ?_
          obtain ⟨i7, h⟩ := ck_e h
          refine va_iald hx hb C.1 V.1 10 0 rfl rfl i7 dX6_isBetter_34 ?_
          refine lv_iload hx hb dX6_isBetter_35 (lv_at hl 4 rfl) ?_
          obtain ⟨v8, hv8, h⟩ := bi_e h
          refine gw_kl V (va_runS (As := [.int (u.2 9 p1.toNatClampNeg), .int p4]) (rest := []) ⟨hx, hb, hml, hown, hts⟩ (mX6_squareOf (D := D) (a := a) (cA := cA) (u := u) hv8) (cwS 2 hts gmdX6_104 rfl rfl rfl (by decide +kernel) ⟨Nat.le_of_ble_eq_true rfl, Nat.le_of_ble_eq_true rfl⟩) (gw_preS gY_ok C V [.int (u.2 9 p1.toNatClampNeg), .int p4]) rfl rfl hl.1 rfl (lv_room (Nat.le_of_ble_eq_true rfl)) dX6_isBetter_37 ⟨Nat.zero_le _, Nat.zero_le _⟩) (fun H locs V => ?_)
          refine lv_aload_n hx hb dX6_isBetter_40 rfl (lv_at hl 0 rfl) ?_
          refine va_get (C := RX6) (T := TX6) (N := 24) (ci := 5) hx hb hts igX6 hown C.1 V.1 0 rfl rfl 12 (by decide) (hts _ kt_615) (fun _ h => h) rfl dX6_isBetter_41 ?_
          refine lv_iload_n hx hb dX6_isBetter_44 rfl (lv_at hl 2 rfl) ?_
          obtain ⟨i9, h⟩ := ck_e h
          refine va_iald hx hb C.1 V.1 10 0 rfl rfl i9 dX6_isBetter_45 ?_
          refine lv_iload hx hb dX6_isBetter_46 (lv_at hl 4 rfl) ?_
          obtain ⟨v10, hv10, h⟩ := bi_e h
          refine gw_kl V (va_runS (As := [.int (u.2 9 p2.toNatClampNeg), .int p4]) (rest := [.long v8]) ⟨hx, hb, hml, hown, hts⟩ (mX6_squareOf (D := D) (a := a) (cA := cA) (u := u) hv10) (cwS 2 hts gmdX6_104 rfl rfl rfl (by decide +kernel) ⟨Nat.le_of_ble_eq_true rfl, Nat.le_of_ble_eq_true rfl⟩) (gw_preS gY_ok C V [.int (u.2 9 p2.toNatClampNeg), .int p4]) rfl rfl hl.1 rfl (lv_room (Nat.le_of_ble_eq_true rfl)) dX6_isBetter_48 ⟨Nat.zero_le _, Nat.zero_le _⟩) (fun H locs V => ?_)
          refine W.lcmp hx hb dX6_isBetter_51 ?_
          refine lv_if_ge (tgt := 59) hx hb dX6_isBetter_52 (by decide) (fun c11 => ?_) (fun c11 => ?_)
          · have h := if_t c11 h
            refine lv_iconst (v := (0 : Int32)) hx hb dX6_isBetter_59 (by decide) ?_
            exact gw_reti hx hb hr (nar_z (Or.inl rfl)) hlk V (Option.some.inj h) rfl dX6_isBetter_60
          · have h := if_f c11 h
            refine lv_iconst (v := (1 : Int32)) hx hb dX6_isBetter_55 (by decide) ?_
            refine lv_goto (tgt := 60) hx hb dX6_isBetter_56 (by decide) ?_
            exact gw_reti hx hb hr (nar_z (Or.inr rfl)) hlk V (Option.some.inj h) rfl dX6_isBetter_60
  · have h := if_f c1 h
    refine lv_iconst (v := (1 : Int32)) hx hb dX6_isBetter_4 (by decide) ?_
    exact gw_reti hx hb hr (nar_z (Or.inr rfl)) hlk V (Option.some.inj h) rfl dX6_isBetter_5
