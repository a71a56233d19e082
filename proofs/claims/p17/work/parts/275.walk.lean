set_option maxHeartbeats 4000000 in
theorem LX6_agreeing_6 {p : Program} {l : Launch} {e : Env} {s : State} {m : MethodId} {below : List Frame} {meth : Method} {c : Code} {args : Array Value} {D : va_G} {a : Nat → Nat} {cA : ClassId} (B : gw_B p s m args meth c cX6_agreeing 9 (some .int) RX6 gT) (C : gw_C D vwCl [(cA, .int)] (mdA a) gY s) {rv : Int32} {u : g_S} : ∀ (n : Nat) (x1 : Int32) (x2 : Int32) (x3 : Int32) (x4 : Int32) (x5 : Int32) (x6 : Int32) (x7 : Int32) (H : Heap) (locs : List Loc) (ls : Array Slot), gw_V D vwCl (mdA a) (mdW a cA) s u H locs → lv_has ls 9 [(0, .ref (a 0)), (1, .int x1), (2, .int x2), (3, .int x3), (4, .int x4), (5, .int x5), (6, .int x6), (7, .int x7)] → fm_agreeing_6 u n x1 x2 x3 x4 x5 x6 x7 = some rv → W p l e rmX6_agreeing s m args below meth c H locs 0 0 (gw_Ei D vwCl (mdA a) (mdW a cA) below args s rv u) (F0 m 6 ls []) := by
  obtain ⟨hx, hb, hml, hown, hts, hr, hlk⟩ := id B
  intro n
  induction n with
  | zero =>
    intro x1 x2 x3 x4 x5 x6 x7 H locs ls V hl h
    cases h
  | succ n ih =>
    intro x1 x2 x3 x4 x5 x6 x7 H locs ls V hl h
    rw [fm_agreeing_6_s] at h
    refine lv_iload hx hb dX6_agreeing_6 (lv_at hl 7 rfl) ?_
    refine lv_aload_n hx hb dX6_agreeing_8 rfl (lv_at hl 0 rfl) ?_
    refine va_get (C := RX6) (T := TX6) (N := 24) (ci := 5) hx hb hts igX6 hown C.1 V.1 0 rfl rfl 8 (by decide) (hts _ kt_611) (fun _ h => h) rfl dX6_agreeing_9 ?_
    refine lv_icmp_ge (tgt := 106) hx hb dX6_agreeing_12 (by decide) (fun c1 => ?_) (fun c1 => ?_)
    · have h := if_t c1 h
      refine lv_iload hx hb dX6_agreeing_106 (lv_at hl 6 rfl) ?_
      exact gw_reti hx hb hr rfl hlk V (Option.some.inj h) rfl dX6_agreeing_108
    · have h := if_f c1 h
      refine lv_aload_n hx hb dX6_agreeing_15 rfl (lv_at hl 0 rfl) ?_
      refine va_get (C := RX6) (T := TX6) (N := 24) (ci := 5) hx hb hts igX6 hown C.1 V.1 0 rfl rfl 11 (by decide) (hts _ kt_614) (fun _ h => h) rfl dX6_agreeing_16 ?_
      refine lv_iload hx hb dX6_agreeing_19 (lv_at hl 7 rfl) ?_
      obtain ⟨i2, h⟩ := ck_e h
      refine va_iald hx hb C.1 V.1 9 0 rfl rfl i2 dX6_agreeing_21 ?_
      refine lv_iload_n hx hb dX6_agreeing_22 rfl (lv_at hl 2 rfl) ?_
      refine lv_icmp_ne (tgt := 64) hx hb dX6_agreeing_23 (by decide) (fun c3 => ?_) (fun c3 => ?_)
      · have h := if_t c3 h
        refine lv_iconst (v := (0 : Int32)) hx hb dX6_agreeing_64 (by decide) ?_
        refine lv_istore (lv' := [(8, .int (0 : Int32)), (0, .ref (a 0)), (1, .int x1), (2, .int x2), (3, .int x3), (4, .int x4), (5, .int x5), (6, .int x6), (7, .int x7)]) hx hb dX6_agreeing_65 hl (by decide) rfl (fun ls hl => ?_)
        refine lv_iload hx hb dX6_agreeing_67 (lv_at hl 0 rfl) ?_
        refine lv_if_eq (tgt := 100) hx hb dX6_agreeing_69 (by decide) (fun c4 => ?_) (fun c4 => ?_)
        · have h := if_t c4 h
          refine lv_iinc (v := (x7 + (1 : Int32))) (lv' := [(7, .int (x7 + (1 : Int32))), (8, .int (0 : Int32)), (0, .ref (a 0)), (1, .int x1), (2, .int x2), (3, .int x3), (4, .int x4), (5, .int x5), (6, .int x6)]) hx hb dX6_agreeing_100 hl (k := 8) rfl rfl (by decide) rfl (fun ls hl => ?_)
          refine lv_goto (tgt := 6) hx hb dX6_agreeing_103 (by decide) ?_
          exact ih x1 x2 x3 x4 x5 x6 (x7 + (1 : Int32)) _ _ _ V (lv_sub hl [2, 3, 4, 5, 6, 7, 8, 0] rfl) h
        · have h := if_f c4 h
          refine lv_aload_n hx hb dX6_agreeing_72 rfl (lv_at hl 1 rfl) ?_
          refine lv_iload hx hb dX6_agreeing_73 (lv_at hl 8 rfl) ?_
          refine lv_iload hx hb dX6_agreeing_75 (lv_at hl 7 rfl) ?_
          refine lv_iload_n hx hb dX6_agreeing_77 rfl (lv_at hl 3 rfl) ?_
          refine lv_iload_n hx hb dX6_agreeing_78 rfl (lv_at hl 2 rfl) ?_
          refine lv_iconst (v := (2 : Int32)) hx hb dX6_agreeing_79 (by decide) ?_
          refine lv_icmp_ne (tgt := 87) hx hb dX6_agreeing_80 (by decide) (fun c5 => ?_) (fun c5 => ?_)
          · have h := if_t c5 h
            refine lv_iload_n hx hb dX6_agreeing_87 rfl (lv_at hl 4 rfl) ?_
            refine lv_iload hx hb dX6_agreeing_88 (lv_at hl 5 rfl) ?_
            obtain ⟨v6, hv6, h⟩ := bi_e h
            refine gw_ki V (va_runV (As := [.int x7, .int x6, .int x2, .int x3, .int x4]) (rest := []) ⟨hx, hb, hml, hown, hts⟩ (mX6_isBetter (D := D) (a := a) (cA := cA) (u := u) hv6) (cwV 5 hts gmdX6_135 rfl rfl rfl (by decide +kernel) ⟨Nat.le_of_ble_eq_true rfl, Nat.le_of_ble_eq_true rfl⟩) (gw_preV (q0 := 0) (ci := 5) gY_ok C V [.int x7, .int x6, .int x2, .int x3, .int x4] rfl rfl) rfl rfl hl.1 rfl (lv_room (Nat.le_of_ble_eq_true rfl)) dX6_agreeing_90 ⟨Nat.zero_le _, Nat.zero_le _⟩) (fun H locs V => ?_)
            refine lv_if_eq (tgt := 100) hx hb dX6_agreeing_93 (by decide) (fun c7 => ?_) (fun c7 => ?_)
            · have h := if_t c7 h
              refine lv_iinc (v := (x7 + (1 : Int32))) (lv' := [(7, .int (x7 + (1 : Int32))), (8, .int (0 : Int32)), (0, .ref (a 0)), (1, .int x1), (2, .int x2), (3, .int x3), (4, .int x4), (5, .int x5), (6, .int x6)]) hx hb dX6_agreeing_100 hl (k := 8) rfl rfl (by decide) rfl (fun ls hl => ?_)
              refine lv_goto (tgt := 6) hx hb dX6_agreeing_103 (by decide) ?_
              exact ih x1 x2 x3 x4 x5 x6 (x7 + (1 : Int32)) _ _ _ V (lv_sub hl [2, 3, 4, 5, 6, 7, 8, 0] rfl) h
            · have h := if_f c7 h
              refine lv_iload hx hb dX6_agreeing_96 (lv_at hl 8 rfl) ?_
              refine lv_istore (lv' := [(6, .int x7), (8, .int (0 : Int32)), (0, .ref (a 0)), (1, .int x1), (2, .int x2), (3, .int x3), (4, .int x4), (5, .int x5), (7, .int x7)]) hx hb dX6_agreeing_98 hl (by decide) rfl (fun ls hl => ?_)
              refine lv_iinc (v := (x7 + (1 : Int32))) (lv' := [(7, .int (x7 + (1 : Int32))), (6, .int x7), (8, .int (0 : Int32)), (0, .ref (a 0)), (1, .int x1), (2, .int x2), (3, .int x3), (4, .int x4), (5, .int x5)]) hx hb dX6_agreeing_100 hl (k := 8) rfl rfl (by decide) rfl (fun ls hl => ?_)
              refine lv_goto (tgt := 6) hx hb dX6_agreeing_103 (by decide) ?_
              exact ih x1 x2 x3 x4 x5 x7 (x7 + (1 : Int32)) _ _ _ V (lv_sub hl [3, 4, 5, 6, 7, 8, 1, 0] rfl) h
          · have h := if_nn c5 h
            refine lv_iconst (v := (-1 : Int32)) hx hb dX6_agreeing_83 (by decide) ?_
            refine lv_goto (tgt := 88) hx hb dX6_agreeing_84 (by decide) ?_
            refine lv_iload hx hb dX6_agreeing_88 (lv_at hl 5 rfl) ?_
            obtain ⟨v8, hv8, h⟩ := bi_e h
            refine gw_ki V (va_runV (As := [.int x7, .int x6, .int x2, .int (-1 : Int32), .int x4]) (rest := []) ⟨hx, hb, hml, hown, hts⟩ (mX6_isBetter (D := D) (a := a) (cA := cA) (u := u) hv8) (cwV 5 hts gmdX6_135 rfl rfl rfl (by decide +kernel) ⟨Nat.le_of_ble_eq_true rfl, Nat.le_of_ble_eq_true rfl⟩) (gw_preV (q0 := 0) (ci := 5) gY_ok C V [.int x7, .int x6, .int x2, .int (-1 : Int32), .int x4] rfl rfl) rfl rfl hl.1 rfl (lv_room (Nat.le_of_ble_eq_true rfl)) dX6_agreeing_90 ⟨Nat.zero_le _, Nat.zero_le _⟩) (fun H locs V => ?_)
            refine lv_if_eq (tgt := 100) hx hb dX6_agreeing_93 (by decide) (fun c9 => ?_) (fun c9 => ?_)
            · have h := if_t c9 h
              refine lv_iinc (v := (x7 + (1 : Int32))) (lv' := [(7, .int (x7 + (1 : Int32))), (8, .int (0 : Int32)), (0, .ref (a 0)), (1, .int x1), (2, .int x2), (3, .int x3), (4, .int x4), (5, .int x5), (6, .int x6)]) hx hb dX6_agreeing_100 hl (k := 8) rfl rfl (by decide) rfl (fun ls hl => ?_)
              refine lv_goto (tgt := 6) hx hb dX6_agreeing_103 (by decide) ?_
              exact ih x1 x2 x3 x4 x5 x6 (x7 + (1 : Int32)) _ _ _ V (lv_sub hl [2, 3, 4, 5, 6, 7, 8, 0] rfl) h
            · have h := if_f c9 h
              refine lv_iload hx hb dX6_agreeing_96 (lv_at hl 8 rfl) ?_
              refine lv_istore (lv' := [(6, .int x7), (8, .int (0 : Int32)), (0, .ref (a 0)), (1, .int x1), (2, .int x2), (3, .int x3), (4, .int x4), (5, .int x5), (7, .int x7)]) hx hb dX6_agreeing_98 hl (by decide) rfl (fun ls hl => ?_)
              refine lv_iinc (v := (x7 + (1 : Int32))) (lv' := [(7, .int (x7 + (1 : Int32))), (6, .int x7), (8, .int (0 : Int32)), (0, .ref (a 0)), (1, .int x1), (2, .int x2), (3, .int x3), (4, .int x4), (5, .int x5)]) hx hb dX6_agreeing_100 hl (k := 8) rfl rfl (by decide) rfl (fun ls hl => ?_)
              refine lv_goto (tgt := 6) hx hb dX6_agreeing_103 (by decide) ?_
              exact ih x1 x2 x3 x4 x5 x7 (x7 + (1 : Int32)) _ _ _ V (lv_sub hl [3, 4, 5, 6, 7, 8, 1, 0] rfl) h
      · have h := if_nn c3 h
        refine lv_aload_n hx hb dX6_agreeing_26 rfl (lv_at hl 0 rfl) ?_
        refine lv_iload hx hb dX6_agreeing_27 (lv_at hl 7 rfl) ?_
        obtain ⟨v10, hv10, h⟩ := bi_e h
        refine gw_ki V (va_runV (As := [.int x7]) (rest := []) ⟨hx, hb, hml, hown, hts⟩ (mX6_isOpen (D := D) (a := a) (cA := cA) (u := u) hv10) (cwV 1 hts gmdX6_118 rfl rfl rfl (by decide +kernel) ⟨Nat.le_of_ble_eq_true rfl, Nat.le_of_ble_eq_true rfl⟩) (gw_preV (q0 := 0) (ci := 5) gY_ok C V [.int x7] rfl rfl) rfl rfl hl.1 rfl (lv_room (Nat.le_of_ble_eq_true rfl)) dX6_agreeing_29 ⟨Nat.zero_le _, Nat.zero_le _⟩) (fun H locs V => ?_)
        refine lv_if_eq (tgt := 64) hx hb dX6_agreeing_32 (by decide) (fun c11 => ?_) (fun c11 => ?_)
        · have h := if_t c11 h
          refine lv_iconst (v := (0 : Int32)) hx hb dX6_agreeing_64 (by decide) ?_
          refine lv_istore (lv' := [(8, .int (0 : Int32)), (0, .ref (a 0)), (1, .int x1), (2, .int x2), (3, .int x3), (4, .int x4), (5, .int x5), (6, .int x6), (7, .int x7)]) hx hb dX6_agreeing_65 hl (by decide) rfl (fun ls hl => ?_)
          refine lv_iload hx hb dX6_agreeing_67 (lv_at hl 0 rfl) ?_
          refine lv_if_eq (tgt := 100) hx hb dX6_agreeing_69 (by decide) (fun c12 => ?_) (fun c12 => ?_)
          · have h := if_t c12 h
            refine lv_iinc (v := (x7 + (1 : Int32))) (lv' := [(7, .int (x7 + (1 : Int32))), (8, .int (0 : Int32)), (0, .ref (a 0)), (1, .int x1), (2, .int x2), (3, .int x3), (4, .int x4), (5, .int x5), (6, .int x6)]) hx hb dX6_agreeing_100 hl (k := 8) rfl rfl (by decide) rfl (fun ls hl => ?_)
            refine lv_goto (tgt := 6) hx hb dX6_agreeing_103 (by decide) ?_
            exact ih x1 x2 x3 x4 x5 x6 (x7 + (1 : Int32)) _ _ _ V (lv_sub hl [2, 3, 4, 5, 6, 7, 8, 0] rfl) h
          · have h := if_f c12 h
            refine lv_aload_n hx hb dX6_agreeing_72 rfl (lv_at hl 1 rfl) ?_
            refine lv_iload hx hb dX6_agreeing_73 (lv_at hl 8 rfl) ?_
            refine lv_iload hx hb dX6_agreeing_75 (lv_at hl 7 rfl) ?_
            refine lv_iload_n hx hb dX6_agreeing_77 rfl (lv_at hl 3 rfl) ?_
            refine lv_iload_n hx hb dX6_agreeing_78 rfl (lv_at hl 2 rfl) ?_
            refine lv_iconst (v := (2 : Int32)) hx hb dX6_agreeing_79 (by decide) ?_
            refine lv_icmp_ne (tgt := 87) hx hb dX6_agreeing_80 (by decide) (fun c13 => ?_) (fun c13 => ?_)
            · have h := if_t c13 h
              refine lv_iload_n hx hb dX6_agreeing_87 rfl (lv_at hl 4 rfl) ?_
              refine lv_iload hx hb dX6_agreeing_88 (lv_at hl 5 rfl) ?_
              obtain ⟨v14, hv14, h⟩ := bi_e h
              refine gw_ki V (va_runV (As := [.int x7, .int x6, .int x2, .int x3, .int x4]) (rest := []) ⟨hx, hb, hml, hown, hts⟩ (mX6_isBetter (D := D) (a := a) (cA := cA) (u := u) hv14) (cwV 5 hts gmdX6_135 rfl rfl rfl (by decide +kernel) ⟨Nat.le_of_ble_eq_true rfl, Nat.le_of_ble_eq_true rfl⟩) (gw_preV (q0 := 0) (ci := 5) gY_ok C V [.int x7, .int x6, .int x2, .int x3, .int x4] rfl rfl) rfl rfl hl.1 rfl (lv_room (Nat.le_of_ble_eq_true rfl)) dX6_agreeing_90 ⟨Nat.zero_le _, Nat.zero_le _⟩) (fun H locs V => ?_)
              refine lv_if_eq (tgt := 100) hx hb dX6_agreeing_93 (by decide) (fun c15 => ?_) (fun c15 => ?_)
              · have h := if_t c15 h
                refine lv_iinc (v := (x7 + (1 : Int32))) (lv' := [(7, .int (x7 + (1 : Int32))), (8, .int (0 : Int32)), (0, .ref (a 0)), (1, .int x1), (2, .int x2), (3, .int x3), (4, .int x4), (5, .int x5), (6, .int x6)]) hx hb dX6_agreeing_100 hl (k := 8) rfl rfl (by decide) rfl (fun ls hl => ?_)
                refine lv_goto (tgt := 6) hx hb dX6_agreeing_103 (by decide) ?_
                exact ih x1 x2 x3 x4 x5 x6 (x7 + (1 : Int32)) _ _ _ V (lv_sub hl [2, 3, 4, 5, 6, 7, 8, 0] rfl) h
              · have h := if_f c15 h
                refine lv_iload hx hb dX6_agreeing_96 (lv_at hl 8 rfl) ?_
                refine lv_istore (lv' := [(6, .int x7), (8, .int (0 : Int32)), (0, .ref (a 0)), (1, .int x1), (2, .int x2), (3, .int x3), (4, .int x4), (5, .int x5), (7, .int x7)]) hx hb dX6_agreeing_98 hl (by decide) rfl (fun ls hl => ?_)
                refine lv_iinc (v := (x7 + (1 : Int32))) (lv' := [(7, .int (x7 + (1 : Int32))), (6, .int x7), (8, .int (0 : Int32)), (0, .ref (a 0)), (1, .int x1), (2, .int x2), (3, .int x3), (4, .int x4), (5, .int x5)]) hx hb dX6_agreeing_100 hl (k := 8) rfl rfl (by decide) rfl (fun ls hl => ?_)
                refine lv_goto (tgt := 6) hx hb dX6_agreeing_103 (by decide) ?_
                exact ih x1 x2 x3 x4 x5 x7 (x7 + (1 : Int32)) _ _ _ V (lv_sub hl [3, 4, 5, 6, 7, 8, 1, 0] rfl) h
            · have h := if_nn c13 h
              refine lv_iconst (v := (-1 : Int32)) hx hb dX6_agreeing_83 (by decide) ?_
              refine lv_goto (tgt := 88) hx hb dX6_agreeing_84 (by decide) ?_
              refine lv_iload hx hb dX6_agreeing_88 (lv_at hl 5 rfl) ?_
              obtain ⟨v16, hv16, h⟩ := bi_e h
              refine gw_ki V (va_runV (As := [.int x7, .int x6, .int x2, .int (-1 : Int32), .int x4]) (rest := []) ⟨hx, hb, hml, hown, hts⟩ (mX6_isBetter (D := D) (a := a) (cA := cA) (u := u) hv16) (cwV 5 hts gmdX6_135 rfl rfl rfl (by decide +kernel) ⟨Nat.le_of_ble_eq_true rfl, Nat.le_of_ble_eq_true rfl⟩) (gw_preV (q0 := 0) (ci := 5) gY_ok C V [.int x7, .int x6, .int x2, .int (-1 : Int32), .int x4] rfl rfl) rfl rfl hl.1 rfl (lv_room (Nat.le_of_ble_eq_true rfl)) dX6_agreeing_90 ⟨Nat.zero_le _, Nat.zero_le _⟩) (fun H locs V => ?_)
              refine lv_if_eq (tgt := 100) hx hb dX6_agreeing_93 (by decide) (fun c17 => ?_) (fun c17 => ?_)
              · have h := if_t c17 h
                refine lv_iinc (v := (x7 + (1 : Int32))) (lv' := [(7, .int (x7 + (1 : Int32))), (8, .int (0 : Int32)), (0, .ref (a 0)), (1, .int x1), (2, .int x2), (3, .int x3), (4, .int x4), (5, .int x5), (6, .int x6)]) hx hb dX6_agreeing_100 hl (k := 8) rfl rfl (by decide) rfl (fun ls hl => ?_)
                refine lv_goto (tgt := 6) hx hb dX6_agreeing_103 (by decide) ?_
                exact ih x1 x2 x3 x4 x5 x6 (x7 + (1 : Int32)) _ _ _ V (lv_sub hl [2, 3, 4, 5, 6, 7, 8, 0] rfl) h
              · have h := if_f c17 h
                refine lv_iload hx hb dX6_agreeing_96 (lv_at hl 8 rfl) ?_
                refine lv_istore (lv' := [(6, .int x7), (8, .int (0 : Int32)), (0, .ref (a 0)), (1, .int x1), (2, .int x2), (3, .int x3), (4, .int x4), (5, .int x5), (7, .int x7)]) hx hb dX6_agreeing_98 hl (by decide) rfl (fun ls hl => ?_)
                refine lv_iinc (v := (x7 + (1 : Int32))) (lv' := [(7, .int (x7 + (1 : Int32))), (6, .int x7), (8, .int (0 : Int32)), (0, .ref (a 0)), (1, .int x1), (2, .int x2), (3, .int x3), (4, .int x4), (5, .int x5)]) hx hb dX6_agreeing_100 hl (k := 8) rfl rfl (by decide) rfl (fun ls hl => ?_)
                refine lv_goto (tgt := 6) hx hb dX6_agreeing_103 (by decide) ?_
                exact ih x1 x2 x3 x4 x5 x7 (x7 + (1 : Int32)) _ _ _ V (lv_sub hl [3, 4, 5, 6, 7, 8, 1, 0] rfl) h
        · have h := if_f c11 h
          refine lv_aload_n hx hb dX6_agreeing_35 rfl (lv_at hl 0 rfl) ?_
          refine lv_iload hx hb dX6_agreeing_36 (lv_at hl 7 rfl) ?_
          obtain ⟨v18, hv18, h⟩ := bi_e h
          refine gw_ki V (va_runV (As := [.int x7]) (rest := []) ⟨hx, hb, hml, hown, hts⟩ (mX6_isHoax (D := D) (a := a) (cA := cA) (u := u) hv18) (cwV 1 hts gmdX6_121 rfl rfl rfl (by decide +kernel) ⟨Nat.le_of_ble_eq_true rfl, Nat.le_of_ble_eq_true rfl⟩) (gw_preV (q0 := 0) (ci := 5) gY_ok C V [.int x7] rfl rfl) rfl rfl hl.1 rfl (lv_room (Nat.le_of_ble_eq_true rfl)) dX6_agreeing_38 ⟨Nat.zero_le _, Nat.zero_le _⟩) (fun H locs V => ?_)
          refine lv_if_ne (tgt := 64) hx hb dX6_agreeing_41 (by decide) (fun c19 => ?_) (fun c19 => ?_)
          · have h := if_t c19 h
            refine lv_iconst (v := (0 : Int32)) hx hb dX6_agreeing_64 (by decide) ?_
            refine lv_istore (lv' := [(8, .int (0 : Int32)), (0, .ref (a 0)), (1, .int x1), (2, .int x2), (3, .int x3), (4, .int x4), (5, .int x5), (6, .int x6), (7, .int x7)]) hx hb dX6_agreeing_65 hl (by decide) rfl (fun ls hl => ?_)
            refine lv_iload hx hb dX6_agreeing_67 (lv_at hl 0 rfl) ?_
            refine lv_if_eq (tgt := 100) hx hb dX6_agreeing_69 (by decide) (fun c20 => ?_) (fun c20 => ?_)
            · have h := if_t c20 h
              refine lv_iinc (v := (x7 + (1 : Int32))) (lv' := [(7, .int (x7 + (1 : Int32))), (8, .int (0 : Int32)), (0, .ref (a 0)), (1, .int x1), (2, .int x2), (3, .int x3), (4, .int x4), (5, .int x5), (6, .int x6)]) hx hb dX6_agreeing_100 hl (k := 8) rfl rfl (by decide) rfl (fun ls hl => ?_)
              refine lv_goto (tgt := 6) hx hb dX6_agreeing_103 (by decide) ?_
              exact ih x1 x2 x3 x4 x5 x6 (x7 + (1 : Int32)) _ _ _ V (lv_sub hl [2, 3, 4, 5, 6, 7, 8, 0] rfl) h
            · have h := if_f c20 h
              refine lv_aload_n hx hb dX6_agreeing_72 rfl (lv_at hl 1 rfl) ?_
              refine lv_iload hx hb dX6_agreeing_73 (lv_at hl 8 rfl) ?_
              refine lv_iload hx hb dX6_agreeing_75 (lv_at hl 7 rfl) ?_
              refine lv_iload_n hx hb dX6_agreeing_77 rfl (lv_at hl 3 rfl) ?_
              refine lv_iload_n hx hb dX6_agreeing_78 rfl (lv_at hl 2 rfl) ?_
              refine lv_iconst (v := (2 : Int32)) hx hb dX6_agreeing_79 (by decide) ?_
              refine lv_icmp_ne (tgt := 87) hx hb dX6_agreeing_80 (by decide) (fun c21 => ?_) (fun c21 => ?_)
              · have h := if_t c21 h
                refine lv_iload_n hx hb dX6_agreeing_87 rfl (lv_at hl 4 rfl) ?_
                refine lv_iload hx hb dX6_agreeing_88 (lv_at hl 5 rfl) ?_
                obtain ⟨v22, hv22, h⟩ := bi_e h
                refine gw_ki V (va_runV (As := [.int x7, .int x6, .int x2, .int x3, .int x4]) (rest := []) ⟨hx, hb, hml, hown, hts⟩ (mX6_isBetter (D := D) (a := a) (cA := cA) (u := u) hv22) (cwV 5 hts gmdX6_135 rfl rfl rfl (by decide +kernel) ⟨Nat.le_of_ble_eq_true rfl, Nat.le_of_ble_eq_true rfl⟩) (gw_preV (q0 := 0) (ci := 5) gY_ok C V [.int x7, .int x6, .int x2, .int x3, .int x4] rfl rfl) rfl rfl hl.1 rfl (lv_room (Nat.le_of_ble_eq_true rfl)) dX6_agreeing_90 ⟨Nat.zero_le _, Nat.zero_le _⟩) (fun H locs V => ?_)
                refine lv_if_eq (tgt := 100) hx hb dX6_agreeing_93 (by decide) (fun c23 => ?_) (fun c23 => ?_)
                · have h := if_t c23 h
                  refine lv_iinc (v := (x7 + (1 : Int32))) (lv' := [(7, .int (x7 + (1 : Int32))), (8, .int (0 : Int32)), (0, .ref (a 0)), (1, .int x1), (2, .int x2), (3, .int x3), (4, .int x4), (5, .int x5), (6, .int x6)]) hx hb dX6_agreeing_100 hl (k := 8) rfl rfl (by decide) rfl (fun ls hl => ?_)
                  refine lv_goto (tgt := 6) hx hb dX6_agreeing_103 (by decide) ?_
                  exact ih x1 x2 x3 x4 x5 x6 (x7 + (1 : Int32)) _ _ _ V (lv_sub hl [2, 3, 4, 5, 6, 7, 8, 0] rfl) h
                · have h := if_f c23 h
                  refine lv_iload hx hb dX6_agreeing_96 (lv_at hl 8 rfl) ?_
                  refine lv_istore (lv' := [(6, .int x7), (8, .int (0 : Int32)), (0, .ref (a 0)), (1, .int x1), (2, .int x2), (3, .int x3), (4, .int x4), (5, .int x5), (7, .int x7)]) hx hb dX6_agreeing_98 hl (by decide) rfl (fun ls hl => ?_)
                  refine lv_iinc (v := (x7 + (1 : Int32))) (lv' := [(7, .int (x7 + (1 : Int32))), (6, .int x7), (8, .int (0 : Int32)), (0, .ref (a 0)), (1, .int x1), (2, .int x2), (3, .int x3), (4, .int x4), (5, .int x5)]) hx hb dX6_agreeing_100 hl (k := 8) rfl rfl (by decide) rfl (fun ls hl => ?_)
                  refine lv_goto (tgt := 6) hx hb dX6_agreeing_103 (by decide) ?_
                  exact ih x1 x2 x3 x4 x5 x7 (x7 + (1 : Int32)) _ _ _ V (lv_sub hl [3, 4, 5, 6, 7, 8, 1, 0] rfl) h
              · have h := if_nn c21 h
                refine lv_iconst (v := (-1 : Int32)) hx hb dX6_agreeing_83 (by decide) ?_
                refine lv_goto (tgt := 88) hx hb dX6_agreeing_84 (by decide) ?_
                refine lv_iload hx hb dX6_agreeing_88 (lv_at hl 5 rfl) ?_
                obtain ⟨v24, hv24, h⟩ := bi_e h
                refine gw_ki V (va_runV (As := [.int x7, .int x6, .int x2, .int (-1 : Int32), .int x4]) (rest := []) ⟨hx, hb, hml, hown, hts⟩ (mX6_isBetter (D := D) (a := a) (cA := cA) (u := u) hv24) (cwV 5 hts gmdX6_135 rfl rfl rfl (by decide +kernel) ⟨Nat.le_of_ble_eq_true rfl, Nat.le_of_ble_eq_true rfl⟩) (gw_preV (q0 := 0) (ci := 5) gY_ok C V [.int x7, .int x6, .int x2, .int (-1 : Int32), .int x4] rfl rfl) rfl rfl hl.1 rfl (lv_room (Nat.le_of_ble_eq_true rfl)) dX6_agreeing_90 ⟨Nat.zero_le _, Nat.zero_le _⟩) (fun H locs V => ?_)
                refine lv_if_eq (tgt := 100) hx hb dX6_agreeing_93 (by decide) (fun c25 => ?_) (fun c25 => ?_)
                · have h := if_t c25 h
                  refine lv_iinc (v := (x7 + (1 : Int32))) (lv' := [(7, .int (x7 + (1 : Int32))), (8, .int (0 : Int32)), (0, .ref (a 0)), (1, .int x1), (2, .int x2), (3, .int x3), (4, .int x4), (5, .int x5), (6, .int x6)]) hx hb dX6_agreeing_100 hl (k := 8) rfl rfl (by decide) rfl (fun ls hl => ?_)
                  refine lv_goto (tgt := 6) hx hb dX6_agreeing_103 (by decide) ?_
                  exact ih x1 x2 x3 x4 x5 x6 (x7 + (1 : Int32)) _ _ _ V (lv_sub hl [2, 3, 4, 5, 6, 7, 8, 0] rfl) h
                · have h := if_f c25 h
                  refine lv_iload hx hb dX6_agreeing_96 (lv_at hl 8 rfl) ?_
                  refine lv_istore (lv' := [(6, .int x7), (8, .int (0 : Int32)), (0, .ref (a 0)), (1, .int x1), (2, .int x2), (3, .int x3), (4, .int x4), (5, .int x5), (7, .int x7)]) hx hb dX6_agreeing_98 hl (by decide) rfl (fun ls hl => ?_)
                  refine lv_iinc (v := (x7 + (1 : Int32))) (lv' := [(7, .int (x7 + (1 : Int32))), (6, .int x7), (8, .int (0 : Int32)), (0, .ref (a 0)), (1, .int x1), (2, .int x2), (3, .int x3), (4, .int x4), (5, .int x5)]) hx hb dX6_agreeing_100 hl (k := 8) rfl rfl (by decide) rfl (fun ls hl => ?_)
                  refine lv_goto (tgt := 6) hx hb dX6_agreeing_103 (by decide) ?_
                  exact ih x1 x2 x3 x4 x5 x7 (x7 + (1 : Int32)) _ _ _ V (lv_sub hl [3, 4, 5, 6, 7, 8, 1, 0] rfl) h
          · have h := if_nn c19 h
            refine lv_aload_n hx hb dX6_agreeing_44 rfl (lv_at hl 0 rfl) ?_
            refine lv_iload hx hb dX6_agreeing_45 (lv_at hl 7 rfl) ?_
            refine lv_iload_n hx hb dX6_agreeing_47 rfl (lv_at hl 2 rfl) ?_
            refine lv_iload_n hx hb dX6_agreeing_48 rfl (lv_at hl 3 rfl) ?_
            refine lv_iload hx hb dX6_agreeing_49 (lv_at hl 4 rfl) ?_
            refine lv_iload hx hb dX6_agreeing_51 (lv_at hl 5 rfl) ?_
            obtain ⟨v26, hv26, h⟩ := bi_e h
            refine gw_ki V (va_runV (As := [.int x7, .int x2, .int x3, .int x4, .int x5]) (rest := []) ⟨hx, hb, hml, hown, hts⟩ (mX6_meets (D := D) (a := a) (cA := cA) (u := u) hv26) (cwV 5 hts gmdX6_131 rfl rfl rfl (by decide +kernel) ⟨Nat.le_of_ble_eq_true rfl, Nat.le_of_ble_eq_true rfl⟩) (gw_preV (q0 := 0) (ci := 5) gY_ok C V [.int x7, .int x2, .int x3, .int x4, .int x5] rfl rfl) rfl rfl hl.1 rfl (lv_room (Nat.le_of_ble_eq_true rfl)) dX6_agreeing_53 ⟨Nat.zero_le _, Nat.zero_le _⟩) (fun H locs V => ?_)
            refine lv_iload_n hx hb dX6_agreeing_56 rfl (lv_at hl 1 rfl) ?_
            refine lv_icmp_ne (tgt := 64) hx hb dX6_agreeing_57 (by decide) (fun c27 => ?_) (fun c27 => ?_)
            · have h := if_t c27 h
              refine lv_iconst (v := (0 : Int32)) hx hb dX6_agreeing_64 (by decide) ?_
              refine lv_istore (lv' := [(8, .int (0 : Int32)), (0, .ref (a 0)), (1, .int x1), (2, .int x2), (3, .int x3), (4, .int x4), (5, .int x5), (6, .int x6), (7, .int x7)]) hx hb dX6_agreeing_65 hl (by decide) rfl (fun ls hl => ?_)
              refine lv_iload hx hb dX6_agreeing_67 (lv_at hl 0 rfl) ?_
              refine lv_if_eq (tgt := 100) hx hb dX6_agreeing_69 (by decide) (fun c28 => ?_) (fun c28 => ?_)
              · have h := if_t c28 h
                refine lv_iinc (v := (x7 + (1 : Int32))) (lv' := [(7, .int (x7 + (1 : Int32))), (8, .int (0 : Int32)), (0, .ref (a 0)), (1, .int x1), (2, .int x2), (3, .int x3), (4, .int x4), (5, .int x5), (6, .int x6)]) hx hb dX6_agreeing_100 hl (k := 8) rfl rfl (by decide) rfl (fun ls hl => ?_)
                refine lv_goto (tgt := 6) hx hb dX6_agreeing_103 (by decide) ?_
                exact ih x1 x2 x3 x4 x5 x6 (x7 + (1 : Int32)) _ _ _ V (lv_sub hl [2, 3, 4, 5, 6, 7, 8, 0] rfl) h
              · have h := if_f c28 h
                refine lv_aload_n hx hb dX6_agreeing_72 rfl (lv_at hl 1 rfl) ?_
                refine lv_iload hx hb dX6_agreeing_73 (lv_at hl 8 rfl) ?_
                refine lv_iload hx hb dX6_agreeing_75 (lv_at hl 7 rfl) ?_
                refine lv_iload_n hx hb dX6_agreeing_77 rfl (lv_at hl 3 rfl) ?_
                refine lv_iload_n hx hb dX6_agreeing_78 rfl (lv_at hl 2 rfl) ?_
                refine lv_iconst (v := (2 : Int32)) hx hb dX6_agreeing_79 (by decide) ?_
                refine lv_icmp_ne (tgt := 87) hx hb dX6_agreeing_80 (by decide) (fun c29 => ?_) (fun c29 => ?_)
                · have h := if_t c29 h
                  refine lv_iload_n hx hb dX6_agreeing_87 rfl (lv_at hl 4 rfl) ?_
                  refine lv_iload hx hb dX6_agreeing_88 (lv_at hl 5 rfl) ?_
                  obtain ⟨v30, hv30, h⟩ := bi_e h
                  refine gw_ki V (va_runV (As := [.int x7, .int x6, .int x2, .int x3, .int x4]) (rest := []) ⟨hx, hb, hml, hown, hts⟩ (mX6_isBetter (D := D) (a := a) (cA := cA) (u := u) hv30) (cwV 5 hts gmdX6_135 rfl rfl rfl (by decide +kernel) ⟨Nat.le_of_ble_eq_true rfl, Nat.le_of_ble_eq_true rfl⟩) (gw_preV (q0 := 0) (ci := 5) gY_ok C V [.int x7, .int x6, .int x2, .int x3, .int x4] rfl rfl) rfl rfl hl.1 rfl (lv_room (Nat.le_of_ble_eq_true rfl)) dX6_agreeing_90 ⟨Nat.zero_le _, Nat.zero_le _⟩) (fun H locs V => ?_)
                  refine lv_if_eq (tgt := 100) hx hb dX6_agreeing_93 (by decide) (fun c31 => ?_) (fun c31 => ?_)
                  · have h := if_t c31 h
                    refine lv_iinc (v := (x7 + (1 : Int32))) (lv' := [(7, .int (x7 + (1 : Int32))), (8, .int (0 : Int32)), (0, .ref (a 0)), (1, .int x1), (2, .int x2), (3, .int x3), (4, .int x4), (5, .int x5), (6, .int x6)]) hx hb dX6_agreeing_100 hl (k := 8) rfl rfl (by decide) rfl (fun ls hl => ?_)
                    refine lv_goto (tgt := 6) hx hb dX6_agreeing_103 (by decide) ?_
                    exact ih x1 x2 x3 x4 x5 x6 (x7 + (1 : Int32)) _ _ _ V (lv_sub hl [2, 3, 4, 5, 6, 7, 8, 0] rfl) h
                  · have h := if_f c31 h
                    refine lv_iload hx hb dX6_agreeing_96 (lv_at hl 8 rfl) ?_
                    refine lv_istore (lv' := [(6, .int x7), (8, .int (0 : Int32)), (0, .ref (a 0)), (1, .int x1), (2, .int x2), (3, .int x3), (4, .int x4), (5, .int x5), (7, .int x7)]) hx hb dX6_agreeing_98 hl (by decide) rfl (fun ls hl => ?_)
                    refine lv_iinc (v := (x7 + (1 : Int32))) (lv' := [(7, .int (x7 + (1 : Int32))), (6, .int x7), (8, .int (0 : Int32)), (0, .ref (a 0)), (1, .int x1), (2, .int x2), (3, .int x3), (4, .int x4), (5, .int x5)]) hx hb dX6_agreeing_100 hl (k := 8) rfl rfl (by decide) rfl (fun ls hl => ?_)
                    refine lv_goto (tgt := 6) hx hb dX6_agreeing_103 (by decide) ?_
                    exact ih x1 x2 x3 x4 x5 x7 (x7 + (1 : Int32)) _ _ _ V (lv_sub hl [3, 4, 5, 6, 7, 8, 1, 0] rfl) h
                · have h := if_nn c29 h
                  refine lv_iconst (v := (-1 : Int32)) hx hb dX6_agreeing_83 (by decide) ?_
                  refine lv_goto (tgt := 88) hx hb dX6_agreeing_84 (by decide) ?_
                  refine lv_iload hx hb dX6_agreeing_88 (lv_at hl 5 rfl) ?_
                  obtain ⟨v32, hv32, h⟩ := bi_e h
                  refine gw_ki V (va_runV (As := [.int x7, .int x6, .int x2, .int (-1 : Int32), .int x4]) (rest := []) ⟨hx, hb, hml, hown, hts⟩ (mX6_isBetter (D := D) (a := a) (cA := cA) (u := u) hv32) (cwV 5 hts gmdX6_135 rfl rfl rfl (by decide +kernel) ⟨Nat.le_of_ble_eq_true rfl, Nat.le_of_ble_eq_true rfl⟩) (gw_preV (q0 := 0) (ci := 5) gY_ok C V [.int x7, .int x6, .int x2, .int (-1 : Int32), .int x4] rfl rfl) rfl rfl hl.1 rfl (lv_room (Nat.le_of_ble_eq_true rfl)) dX6_agreeing_90 ⟨Nat.zero_le _, Nat.zero_le _⟩) (fun H locs V => ?_)
                  refine lv_if_eq (tgt := 100) hx hb dX6_agreeing_93 (by decide) (fun c33 => ?_) (fun c33 => ?_)
                  · have h := if_t c33 h
                    refine lv_iinc (v := (x7 + (1 : Int32))) (lv' := [(7, .int (x7 + (1 : Int32))), (8, .int (0 : Int32)), (0, .ref (a 0)), (1, .int x1), (2, .int x2), (3, .int x3), (4, .int x4), (5, .int x5), (6, .int x6)]) hx hb dX6_agreeing_100 hl (k := 8) rfl rfl (by decide) rfl (fun ls hl => ?_)
                    refine lv_goto (tgt := 6) hx hb dX6_agreeing_103 (by decide) ?_
                    exact ih x1 x2 x3 x4 x5 x6 (x7 + (1 : Int32)) _ _ _ V (lv_sub hl [2, 3, 4, 5, 6, 7, 8, 0] rfl) h
                  · have h := if_f c33 h
                    refine lv_iload hx hb dX6_agreeing_96 (lv_at hl 8 rfl) ?_
                    refine lv_istore (lv' := [(6, .int x7), (8, .int (0 : Int32)), (0, .ref (a 0)), (1, .int x1), (2, .int x2), (3, .int x3), (4, .int x4), (5, .int x5), (7, .int x7)]) hx hb dX6_agreeing_98 hl (by decide) rfl (fun ls hl => ?_)
                    refine lv_iinc (v := (x7 + (1 : Int32))) (lv' := [(7, .int (x7 + (1 : Int32))), (6, .int x7), (8, .int (0 : Int32)), (0, .ref (a 0)), (1, .int x1), (2, .int x2), (3, .int x3), (4, .int x4), (5, .int x5)]) hx hb dX6_agreeing_100 hl (k := 8) rfl rfl (by decide) rfl (fun ls hl => ?_)
                    refine lv_goto (tgt := 6) hx hb dX6_agreeing_103 (by decide) ?_
                    exact ih x1 x2 x3 x4 x5 x7 (x7 + (1 : Int32)) _ _ _ V (lv_sub hl [3, 4, 5, 6, 7, 8, 1, 0] rfl) h
            · have h := if_nn c27 h
              refine lv_iconst (v := (1 : Int32)) hx hb dX6_agreeing_60 (by decide) ?_
              refine lv_goto (tgt := 65) hx hb dX6_agreeing_61 (by decide) ?_
              refine lv_istore (lv' := [(8, .int (1 : Int32)), (0, .ref (a 0)), (1, .int x1), (2, .int x2), (3, .int x3), (4, .int x4), (5, .int x5), (6, .int x6), (7, .int x7)]) hx hb dX6_agreeing_65 hl (by decide) rfl (fun ls hl => ?_)
              refine lv_iload hx hb dX6_agreeing_67 (lv_at hl 0 rfl) ?_
              refine lv_if_eq (tgt := 100) hx hb dX6_agreeing_69 (by decide) (fun c34 => ?_) (fun c34 => ?_)
              · have h := if_t c34 h
                refine lv_iinc (v := (x7 + (1 : Int32))) (lv' := [(7, .int (x7 + (1 : Int32))), (8, .int (1 : Int32)), (0, .ref (a 0)), (1, .int x1), (2, .int x2), (3, .int x3), (4, .int x4), (5, .int x5), (6, .int x6)]) hx hb dX6_agreeing_100 hl (k := 8) rfl rfl (by decide) rfl (fun ls hl => ?_)
                refine lv_goto (tgt := 6) hx hb dX6_agreeing_103 (by decide) ?_
                exact ih x1 x2 x3 x4 x5 x6 (x7 + (1 : Int32)) _ _ _ V (lv_sub hl [2, 3, 4, 5, 6, 7, 8, 0] rfl) h
              · have h := if_f c34 h
                refine lv_aload_n hx hb dX6_agreeing_72 rfl (lv_at hl 1 rfl) ?_
                refine lv_iload hx hb dX6_agreeing_73 (lv_at hl 8 rfl) ?_
                refine lv_iload hx hb dX6_agreeing_75 (lv_at hl 7 rfl) ?_
                refine lv_iload_n hx hb dX6_agreeing_77 rfl (lv_at hl 3 rfl) ?_
                refine lv_iload_n hx hb dX6_agreeing_78 rfl (lv_at hl 2 rfl) ?_
                refine lv_iconst (v := (2 : Int32)) hx hb dX6_agreeing_79 (by decide) ?_
                refine lv_icmp_ne (tgt := 87) hx hb dX6_agreeing_80 (by decide) (fun c35 => ?_) (fun c35 => ?_)
                · have h := if_t c35 h
                  refine lv_iload_n hx hb dX6_agreeing_87 rfl (lv_at hl 4 rfl) ?_
                  refine lv_iload hx hb dX6_agreeing_88 (lv_at hl 5 rfl) ?_
                  obtain ⟨v36, hv36, h⟩ := bi_e h
                  refine gw_ki V (va_runV (As := [.int x7, .int x6, .int x2, .int x3, .int x4]) (rest := []) ⟨hx, hb, hml, hown, hts⟩ (mX6_isBetter (D := D) (a := a) (cA := cA) (u := u) hv36) (cwV 5 hts gmdX6_135 rfl rfl rfl (by decide +kernel) ⟨Nat.le_of_ble_eq_true rfl, Nat.le_of_ble_eq_true rfl⟩) (gw_preV (q0 := 0) (ci := 5) gY_ok C V [.int x7, .int x6, .int x2, .int x3, .int x4] rfl rfl) rfl rfl hl.1 rfl (lv_room (Nat.le_of_ble_eq_true rfl)) dX6_agreeing_90 ⟨Nat.zero_le _, Nat.zero_le _⟩) (fun H locs V => ?_)
                  refine lv_if_eq (tgt := 100) hx hb dX6_agreeing_93 (by decide) (fun c37 => ?_) (fun c37 => ?_)
                  · have h := if_t c37 h
                    refine lv_iinc (v := (x7 + (1 : Int32))) (lv' := [(7, .int (x7 + (1 : Int32))), (8, .int (1 : Int32)), (0, .ref (a 0)), (1, .int x1), (2, .int x2), (3, .int x3), (4, .int x4), (5, .int x5), (6, .int x6)]) hx hb dX6_agreeing_100 hl (k := 8) rfl rfl (by decide) rfl (fun ls hl => ?_)
                    refine lv_goto (tgt := 6) hx hb dX6_agreeing_103 (by decide) ?_
                    exact ih x1 x2 x3 x4 x5 x6 (x7 + (1 : Int32)) _ _ _ V (lv_sub hl [2, 3, 4, 5, 6, 7, 8, 0] rfl) h
                  · have h := if_f c37 h
                    refine lv_iload hx hb dX6_agreeing_96 (lv_at hl 8 rfl) ?_
                    refine lv_istore (lv' := [(6, .int x7), (8, .int (1 : Int32)), (0, .ref (a 0)), (1, .int x1), (2, .int x2), (3, .int x3), (4, .int x4), (5, .int x5), (7, .int x7)]) hx hb dX6_agreeing_98 hl (by decide) rfl (fun ls hl => ?_)
                    refine lv_iinc (v := (x7 + (1 : Int32))) (lv' := [(7, .int (x7 + (1 : Int32))), (6, .int x7), (8, .int (1 : Int32)), (0, .ref (a 0)), (1, .int x1), (2, .int x2), (3, .int x3), (4, .int x4), (5, .int x5)]) hx hb dX6_agreeing_100 hl (k := 8) rfl rfl (by decide) rfl (fun ls hl => ?_)
                    refine lv_goto (tgt := 6) hx hb dX6_agreeing_103 (by decide) ?_
                    exact ih x1 x2 x3 x4 x5 x7 (x7 + (1 : Int32)) _ _ _ V (lv_sub hl [3, 4, 5, 6, 7, 8, 1, 0] rfl) h
                · have h := if_nn c35 h
                  refine lv_iconst (v := (-1 : Int32)) hx hb dX6_agreeing_83 (by decide) ?_
                  refine lv_goto (tgt := 88) hx hb dX6_agreeing_84 (by decide) ?_
                  refine lv_iload hx hb dX6_agreeing_88 (lv_at hl 5 rfl) ?_
                  obtain ⟨v38, hv38, h⟩ := bi_e h
                  refine gw_ki V (va_runV (As := [.int x7, .int x6, .int x2, .int (-1 : Int32), .int x4]) (rest := []) ⟨hx, hb, hml, hown, hts⟩ (mX6_isBetter (D := D) (a := a) (cA := cA) (u := u) hv38) (cwV 5 hts gmdX6_135 rfl rfl rfl (by decide +kernel) ⟨Nat.le_of_ble_eq_true rfl, Nat.le_of_ble_eq_true rfl⟩) (gw_preV (q0 := 0) (ci := 5) gY_ok C V [.int x7, .int x6, .int x2, .int (-1 : Int32), .int x4] rfl rfl) rfl rfl hl.1 rfl (lv_room (Nat.le_of_ble_eq_true rfl)) dX6_agreeing_90 ⟨Nat.zero_le _, Nat.zero_le _⟩) (fun H locs V => ?_)
                  refine lv_if_eq (tgt := 100) hx hb dX6_agreeing_93 (by decide) (fun c39 => ?_) (fun c39 => ?_)
                  · have h := if_t c39 h
                    refine lv_iinc (v := (x7 + (1 : Int32))) (lv' := [(7, .int (x7 + (1 : Int32))), (8, .int (1 : Int32)), (0, .ref (a 0)), (1, .int x1), (2, .int x2), (3, .int x3), (4, .int x4), (5, .int x5), (6, .int x6)]) hx hb dX6_agreeing_100 hl (k := 8) rfl rfl (by decide) rfl (fun ls hl => ?_)
                    refine lv_goto (tgt := 6) hx hb dX6_agreeing_103 (by decide) ?_
                    exact ih x1 x2 x3 x4 x5 x6 (x7 + (1 : Int32)) _ _ _ V (lv_sub hl [2, 3, 4, 5, 6, 7, 8, 0] rfl) h
                  · have h := if_f c39 h
                    refine lv_iload hx hb dX6_agreeing_96 (lv_at hl 8 rfl) ?_
                    refine lv_istore (lv' := [(6, .int x7), (8, .int (1 : Int32)), (0, .ref (a 0)), (1, .int x1), (2, .int x2), (3, .int x3), (4, .int x4), (5, .int x5), (7, .int x7)]) hx hb dX6_agreeing_98 hl (by decide) rfl (fun ls hl => ?_)
                    refine lv_iinc (v := (x7 + (1 : Int32))) (lv' := [(7, .int (x7 + (1 : Int32))), (6, .int x7), (8, .int (1 : Int32)), (0, .ref (a 0)), (1, .int x1), (2, .int x2), (3, .int x3), (4, .int x4), (5, .int x5)]) hx hb dX6_agreeing_100 hl (k := 8) rfl rfl (by decide) rfl (fun ls hl => ?_)
                    refine lv_goto (tgt := 6) hx hb dX6_agreeing_103 (by decide) ?_
                    exact ih x1 x2 x3 x4 x5 x7 (x7 + (1 : Int32)) _ _ _ V (lv_sub hl [3, 4, 5, 6, 7, 8, 1, 0] rfl) h
set_option maxHeartbeats 4000000 in
theorem mX6_agreeing {l : Launch} {D : va_G} {a : Nat → Nat} {cA : ClassId} {sz : Nat} {u : g_S} {p1 : Int32} {p2 : Int32} {p3 : Int32} {p4 : Int32} {p5 : Int32} {rv : Int32} (h : fm_agreeing u p1 p2 p3 p4 p5 = some rv) : gw_Mi D vwCl [(cA, .int)] (mdA a) gY (mdW a cA) l yX6_agreeing wxX6_agreeing rmX6_agreeing sz u [.ref (a 0), .int p1, .int p2, .int p3, .int p4, .int p5] rv u := by
  refine gw_Mof (Qc := fun z => va_Qi (gw_Pi rv u) (gw_W D vwCl (mdW a cA)) (rg (mdA a) z)) (cc := cX6_agreeing) (maxL := 9) (ret := (some .int)) (by decide) rfl ?_
  intro p e s m below meth c B C V
  obtain ⟨hx, hb, hml, hown, hts, hr, hlk⟩ := id B
  have hl := lv_entry ([.ref (a 0), .int p1, .int p2, .int p3, .int p4, .int p5]) (n := 9) (Nat.le_of_ble_eq_true rfl)
  rw [lg_entry_eq]
  generalize (lg_sl ([.ref (a 0), .int p1, .int p2, .int p3, .int p4, .int p5]) ++ List.replicate (9 - (lg_sl ([.ref (a 0), .int p1, .int p2, .int p3, .int p4, .int p5])).length) Slot.unset).toArray = ls at hl ⊢
  have hl : lv_has ls 9 [(0, .ref (a 0)), (1, .int p1), (2, .int p2), (3, .int p3), (4, .int p4), (5, .int p5)] := hl
  unfold fm_agreeing at h
  refine lv_iconst (v := (-1 : Int32)) hx hb dX6_agreeing_0 (by decide) ?_
  refine lv_istore (lv' := [(6, .int (-1 : Int32)), (0, .ref (a 0)), (1, .int p1), (2, .int p2), (3, .int p3), (4, .int p4), (5, .int p5)]) hx hb dX6_agreeing_1 hl (by decide) rfl (fun ls hl => ?_)
  refine lv_iconst (v := (0 : Int32)) hx hb dX6_agreeing_3 (by decide) ?_
  refine lv_istore (lv' := [(7, .int (0 : Int32)), (6, .int (-1 : Int32)), (0, .ref (a 0)), (1, .int p1), (2, .int p2), (3, .int p3), (4, .int p4), (5, .int p5)]) hx hb dX6_agreeing_4 hl (by decide) rfl (fun ls hl => ?_)
  exact LX6_agreeing_6 B C 200 p1 p2 p3 p4 p5 (-1 : Int32) (0 : Int32) _ _ _ V (lv_sub hl [2, 3, 4, 5, 6, 7, 1, 0] rfl) h
