set_option maxHeartbeats 4000000 in
theorem mX4_isWithinSpan {l : Launch} {D : va_G} {a : Nat → Nat} {cA : ClassId} {sz : Nat} {u : g_S} {p1 : Int32} {p2 : Int32} {rv : Int32} (h : fcJ_isWithinSpan u p1 p2 = some rv) : gw_Mi D vwCl [(cA, .int)] (cjA a) gX (cjW a cA) l yX4_isWithinSpan wxX4_isWithinSpan rmX4_isWithinSpan sz u [.ref (a 0), .int p1, .int p2] rv u := by
  refine gw_Mof (Qc := fun z => va_Qi (gw_Pi rv u) (gw_W D vwCl (cjW a cA)) (rg (cjA a) z)) (cc := cX4_isWithinSpan) (maxL := 3) (ret := (some .boolean)) (by decide) rfl ?_
  intro p e s m below meth c B C V
  obtain ⟨hx, hb, hml, hown, hts, hr, hlk⟩ := id B
  have hl := lv_entry ([.ref (a 0), .int p1, .int p2]) (n := 3) (Nat.le_of_ble_eq_true rfl)
  rw [lg_entry_eq]
  generalize (lg_sl ([.ref (a 0), .int p1, .int p2]) ++ List.replicate (3 - (lg_sl ([.ref (a 0), .int p1, .int p2])).length) Slot.unset).toArray = ls at hl ⊢
  have hl : lv_has ls 3 [(0, .ref (a 0)), (1, .int p1), (2, .int p2)] := hl
  unfold fcJ_isWithinSpan at h
  refine lv_aload_n hx hb dX4_isWithinSpan_0 rfl (lv_at hl 0 rfl) ?_
  refine va_get (C := RX4) (T := TX4) (N := 4) (ci := 4) hx hb hts igX4 hown C.1 V.1 0 rfl rfl 2 (by decide) (hts _ kt_158) (fun _ h => h) rfl dX4_isWithinSpan_1 ?_
  refine va_get (C := RX0) (T := TX0) (N := 11) (ci := 0) hx hb hts igX0 hown C.1 V.1 3 rfl rfl 6 (by decide) (hts _ kt_89) (fun _ h => h) rfl dX4_isWithinSpan_4 ?_
  refine lv_iload_n hx hb dX4_isWithinSpan_7 rfl (lv_at hl 2 rfl) ?_
  obtain ⟨i1, h⟩ := ck_e h
  refine va_iald hx hb C.1 V.1 17 0 rfl rfl i1 dX4_isWithinSpan_8 ?_
  refine lv_aload_n hx hb dX4_isWithinSpan_9 rfl (lv_at hl 0 rfl) ?_
  refine va_get (C := RX4) (T := TX4) (N := 4) (ci := 4) hx hb hts igX4 hown C.1 V.1 0 rfl rfl 2 (by decide) (hts _ kt_158) (fun _ h => h) rfl dX4_isWithinSpan_10 ?_
  refine va_get (C := RX0) (T := TX0) (N := 11) (ci := 0) hx hb hts igX0 hown C.1 V.1 3 rfl rfl 6 (by decide) (hts _ kt_89) (fun _ h => h) rfl dX4_isWithinSpan_13 ?_
  refine lv_iload_n hx hb dX4_isWithinSpan_16 rfl (lv_at hl 1 rfl) ?_
  obtain ⟨i2, h⟩ := ck_e h
  refine va_iald hx hb C.1 V.1 17 0 rfl rfl i2 dX4_isWithinSpan_17 ?_
  refine lv_isub hx hb dX4_isWithinSpan_18 ?_
  refine lv_aload_n hx hb dX4_isWithinSpan_19 rfl (lv_at hl 0 rfl) ?_
  refine va_get (C := RX4) (T := TX4) (N := 4) (ci := 4) hx hb hts igX4 hown C.1 V.1 0 rfl rfl 0 (by decide) (hts _ kt_156) (fun _ h => h) rfl dX4_isWithinSpan_20 ?_
  refine va_get (C := RX3) (T := TX3) (N := 5) (ci := 3) hx hb hts igX3 hown C.1 V.1 1 rfl rfl 1 (by decide) (hts _ kt_37) (fun _ h => h) rfl dX4_isWithinSpan_23 ?_
  refine lv_aload_n hx hb dX4_isWithinSpan_26 rfl (lv_at hl 0 rfl) ?_
  refine va_get (C := RX4) (T := TX4) (N := 4) (ci := 4) hx hb hts igX4 hown C.1 V.1 0 rfl rfl 2 (by decide) (hts _ kt_158) (fun _ h => h) rfl dX4_isWithinSpan_27 ?_
  refine va_get (C := RX0) (T := TX0) (N := 11) (ci := 0) hx hb hts igX0 hown C.1 V.1 3 rfl rfl 2 (by decide) (hts _ kt_81) (fun _ h => h) rfl dX4_isWithinSpan_30 ?_
  refine lv_iload_n hx hb dX4_isWithinSpan_33 rfl (lv_at hl 2 rfl) ?_
  obtain ⟨i3, h⟩ := ck_e h
  refine va_iald hx hb C.1 V.1 13 0 rfl rfl i3 dX4_isWithinSpan_34 ?_
  obtain ⟨i4, h⟩ := ck_e h
  refine va_iald hx hb C.1 V.1 6 0 rfl rfl i4 dX4_isWithinSpan_35 ?_
  refine lv_icmp_gt (tgt := 43) hx hb dX4_isWithinSpan_36 (by decide) (fun c5 => ?_) (fun c5 => ?_)
  · have h := if_t c5 h
    refine lv_iconst (v := (0 : Int32)) hx hb dX4_isWithinSpan_43 (by decide) ?_
    exact gw_reti hx hb hr (nar_z (Or.inl rfl)) hlk V (Option.some.inj h) rfl dX4_isWithinSpan_44
  · have h := if_f c5 h
    refine lv_iconst (v := (1 : Int32)) hx hb dX4_isWithinSpan_39 (by decide) ?_
    refine lv_goto (tgt := 44) hx hb dX4_isWithinSpan_40 (by decide) ?_
    exact gw_reti hx hb hr (nar_z (Or.inr rfl)) hlk V (Option.some.inj h) rfl dX4_isWithinSpan_44
set_option maxHeartbeats 4000000 in
theorem LX4_latestOfLine_10 {p : Program} {l : Launch} {e : Env} {s : State} {m : MethodId} {below : List Frame} {meth : Method} {c : Code} {args : Array Value} {D : va_G} {a : Nat → Nat} {cA : ClassId} (B : gw_B p s m args meth c cX4_latestOfLine 3 (some .int) RX4 gT) (C : gw_C D vwCl [(cA, .int)] (cjA a) gX s) {rv : Int32} {u : g_S} : ∀ (n : Nat) (x1 : Int32) (x2 : Int32) (H : Heap) (locs : List Loc) (ls : Array Slot), gw_V D vwCl (cjA a) (cjW a cA) s u H locs → lv_has ls 3 [(0, .ref (a 0)), (1, .int x1), (2, .int x2)] → fcJ_latestOfLine_10 u n x1 x2 = some rv → W p l e rmX4_latestOfLine s m args below meth c H locs 0 0 (gw_Ei D vwCl (cjA a) (cjW a cA) below args s rv u) (F0 m 10 ls []) := by
  obtain ⟨hx, hb, hml, hown, hts, hr, hlk⟩ := id B
  intro n
  induction n with
  | zero =>
    intro x1 x2 H locs ls V hl h
    cases h
  | succ n ih =>
    intro x1 x2 H locs ls V hl h
    rw [fcJ_latestOfLine_10_s] at h
    refine lv_iload_n hx hb dX4_latestOfLine_10 rfl (lv_at hl 2 rfl) ?_
    refine lv_if_lt (tgt := 64) hx hb dX4_latestOfLine_11 (by decide) (fun c1 => ?_) (fun c1 => ?_)
    · have h := if_t c1 h
      refine lv_iconst (v := (-1 : Int32)) hx hb dX4_latestOfLine_64 (by decide) ?_
      exact gw_reti hx hb hr rfl hlk V (Option.some.inj h) rfl dX4_latestOfLine_65
    · have h := if_f c1 h
      refine lv_aload_n hx hb dX4_latestOfLine_14 rfl (lv_at hl 0 rfl) ?_
      refine va_get (C := RX4) (T := TX4) (N := 4) (ci := 4) hx hb hts igX4 hown C.1 V.1 0 rfl rfl 2 (by decide) (hts _ kt_158) (fun _ h => h) rfl dX4_latestOfLine_15 ?_
      refine va_get (C := RX0) (T := TX0) (N := 11) (ci := 0) hx hb hts igX0 hown C.1 V.1 3 rfl rfl 1 (by decide) (hts _ kt_79) (fun _ h => h) rfl dX4_latestOfLine_18 ?_
      refine lv_iload_n hx hb dX4_latestOfLine_21 rfl (lv_at hl 2 rfl) ?_
      obtain ⟨i2, h⟩ := ck_e h
      refine va_iald hx hb C.1 V.1 12 0 rfl rfl i2 dX4_latestOfLine_22 ?_
      refine lv_aload_n hx hb dX4_latestOfLine_23 rfl (lv_at hl 0 rfl) ?_
      refine va_get (C := RX4) (T := TX4) (N := 4) (ci := 4) hx hb hts igX4 hown C.1 V.1 0 rfl rfl 2 (by decide) (hts _ kt_158) (fun _ h => h) rfl dX4_latestOfLine_24 ?_
      refine va_get (C := RX0) (T := TX0) (N := 11) (ci := 0) hx hb hts igX0 hown C.1 V.1 3 rfl rfl 1 (by decide) (hts _ kt_79) (fun _ h => h) rfl dX4_latestOfLine_27 ?_
      refine lv_iload_n hx hb dX4_latestOfLine_30 rfl (lv_at hl 1 rfl) ?_
      obtain ⟨i3, h⟩ := ck_e h
      refine va_iald hx hb C.1 V.1 12 0 rfl rfl i3 dX4_latestOfLine_31 ?_
      refine lv_icmp_ne (tgt := 58) hx hb dX4_latestOfLine_32 (by decide) (fun c4 => ?_) (fun c4 => ?_)
      · have h := if_t c4 h
        refine lv_iinc (v := (x2 + (-1 : Int32))) (lv' := [(2, .int (x2 + (-1 : Int32))), (0, .ref (a 0)), (1, .int x1)]) hx hb dX4_latestOfLine_58 hl (k := 2) rfl rfl (by decide) rfl (fun ls hl => ?_)
        refine lv_goto (tgt := 10) hx hb dX4_latestOfLine_61 (by decide) ?_
        exact ih x1 (x2 + (-1 : Int32)) _ _ _ V (lv_sub hl [1, 2, 0] rfl) h
      · have h := if_nn c4 h
        refine lv_aload_n hx hb dX4_latestOfLine_35 rfl (lv_at hl 0 rfl) ?_
        refine lv_iload_n hx hb dX4_latestOfLine_36 rfl (lv_at hl 2 rfl) ?_
        obtain ⟨v5, hv5, h⟩ := bi_e h
        refine gw_ki V (va_runV (As := [.int x2]) (rest := []) ⟨hx, hb, hml, hown, hts⟩ (mX4_canBeReason (D := D) (a := a) (cA := cA) (u := u) hv5) (cwV 1 hts gcjX4_235 rfl rfl rfl (by decide +kernel) ⟨Nat.le_of_ble_eq_true rfl, Nat.le_of_ble_eq_true rfl⟩) (gw_preV (q0 := 0) (ci := 4) gX_ok C V [.int x2] rfl rfl) rfl rfl hl.1 rfl (lv_room (Nat.le_of_ble_eq_true rfl)) dX4_latestOfLine_37 ⟨Nat.zero_le _, Nat.zero_le _⟩) (fun H locs V => ?_)
        refine lv_if_eq (tgt := 58) hx hb dX4_latestOfLine_40 (by decide) (fun c6 => ?_) (fun c6 => ?_)
        · have h := if_t c6 h
          refine lv_iinc (v := (x2 + (-1 : Int32))) (lv' := [(2, .int (x2 + (-1 : Int32))), (0, .ref (a 0)), (1, .int x1)]) hx hb dX4_latestOfLine_58 hl (k := 2) rfl rfl (by decide) rfl (fun ls hl => ?_)
          refine lv_goto (tgt := 10) hx hb dX4_latestOfLine_61 (by decide) ?_
          exact ih x1 (x2 + (-1 : Int32)) _ _ _ V (lv_sub hl [1, 2, 0] rfl) h
        · have h := if_f c6 h
          refine lv_aload_n hx hb dX4_latestOfLine_43 rfl (lv_at hl 0 rfl) ?_
          refine lv_iload_n hx hb dX4_latestOfLine_44 rfl (lv_at hl 2 rfl) ?_
          refine lv_iload_n hx hb dX4_latestOfLine_45 rfl (lv_at hl 1 rfl) ?_
          obtain ⟨v7, hv7, h⟩ := bi_e h
          refine gw_ki V (va_runV (As := [.int x2, .int x1]) (rest := []) ⟨hx, hb, hml, hown, hts⟩ (mX4_isWithinSpan (D := D) (a := a) (cA := cA) (u := u) hv7) (cwV 2 hts gcjX4_238 rfl rfl rfl (by decide +kernel) ⟨Nat.le_of_ble_eq_true rfl, Nat.le_of_ble_eq_true rfl⟩) (gw_preV (q0 := 0) (ci := 4) gX_ok C V [.int x2, .int x1] rfl rfl) rfl rfl hl.1 rfl (lv_room (Nat.le_of_ble_eq_true rfl)) dX4_latestOfLine_46 ⟨Nat.zero_le _, Nat.zero_le _⟩) (fun H locs V => ?_)
          refine lv_if_eq (tgt := 56) hx hb dX4_latestOfLine_49 (by decide) (fun c8 => ?_) (fun c8 => ?_)
          · have h := if_t c8 h
            refine lv_iconst (v := (-1 : Int32)) hx hb dX4_latestOfLine_56 (by decide) ?_
            exact gw_reti hx hb hr rfl hlk V (Option.some.inj h) rfl dX4_latestOfLine_57
          · have h := if_f c8 h
            refine lv_iload_n hx hb dX4_latestOfLine_52 rfl (lv_at hl 2 rfl) ?_
            refine lv_goto (tgt := 57) hx hb dX4_latestOfLine_53 (by decide) ?_
            exact gw_reti hx hb hr rfl hlk V (Option.some.inj h) rfl dX4_latestOfLine_57
set_option maxHeartbeats 4000000 in
theorem mX4_latestOfLine {l : Launch} {D : va_G} {a : Nat → Nat} {cA : ClassId} {sz : Nat} {u : g_S} {p1 : Int32} {rv : Int32} (h : fcJ_latestOfLine u p1 = some rv) : gw_Mi D vwCl [(cA, .int)] (cjA a) gX (cjW a cA) l yX4_latestOfLine wxX4_latestOfLine rmX4_latestOfLine sz u [.ref (a 0), .int p1] rv u := by
  refine gw_Mof (Qc := fun z => va_Qi (gw_Pi rv u) (gw_W D vwCl (cjW a cA)) (rg (cjA a) z)) (cc := cX4_latestOfLine) (maxL := 3) (ret := (some .int)) (by decide) rfl ?_
  intro p e s m below meth c B C V
  obtain ⟨hx, hb, hml, hown, hts, hr, hlk⟩ := id B
  have hl := lv_entry ([.ref (a 0), .int p1]) (n := 3) (Nat.le_of_ble_eq_true rfl)
  rw [lg_entry_eq]
  generalize (lg_sl ([.ref (a 0), .int p1]) ++ List.replicate (3 - (lg_sl ([.ref (a 0), .int p1])).length) Slot.unset).toArray = ls at hl ⊢
  have hl : lv_has ls 3 [(0, .ref (a 0)), (1, .int p1)] := hl
  unfold fcJ_latestOfLine at h
  refine lv_aload_n hx hb dX4_latestOfLine_0 rfl (lv_at hl 0 rfl) ?_
  refine va_get (C := RX4) (T := TX4) (N := 4) (ci := 4) hx hb hts igX4 hown C.1 V.1 0 rfl rfl 2 (by decide) (hts _ kt_158) (fun _ h => h) rfl dX4_latestOfLine_1 ?_
  refine va_get (C := RX0) (T := TX0) (N := 11) (ci := 0) hx hb hts igX0 hown C.1 V.1 3 rfl rfl 0 (by decide) (hts _ kt_77) (fun _ h => h) rfl dX4_latestOfLine_4 ?_
  refine lv_iconst (v := (1 : Int32)) hx hb dX4_latestOfLine_7 (by decide) ?_
  refine lv_isub hx hb dX4_latestOfLine_8 ?_
  obtain ⟨w1, ew1, h⟩ := gl_e h
  refine gw_nmi ew1 ?_
  refine lv_istore_n (lv' := [(2, .int w1), (0, .ref (a 0)), (1, .int p1)]) hx hb dX4_latestOfLine_9 rfl hl (by decide) rfl (fun ls hl => ?_)
  exact LX4_latestOfLine_10 B C 200 p1 w1 _ _ _ V (lv_sub hl [1, 2, 0] rfl) h
set_option maxHeartbeats 4000000 in
theorem mX4_takeReason {l : Launch} {D : va_G} {a : Nat → Nat} {cA : ClassId} {sz : Nat} {u : g_S} {p1 : Int32} {p2 : Int32} {p3 : Int32} {rv : Int32 × g_S} (h : fcJ_takeReason u p1 p2 p3 = some rv) : gw_Mi D vwCl [(cA, .int)] (cjA a) gX (cjW a cA) l yX4_takeReason wxX4_takeReason rmX4_takeReason sz u [.ref (a 0), .int p1, .int p2, .int p3] rv.1 rv.2 := by
  refine gw_Mof (Qc := fun z => va_Qi (gw_Pi rv.1 rv.2) (gw_W D vwCl (cjW a cA)) (rg (cjA a) z)) (cc := cX4_takeReason) (maxL := 4) (ret := (some .boolean)) (by decide) rfl ?_
  intro p e s m below meth c B C V
  obtain ⟨hx, hb, hml, hown, hts, hr, hlk⟩ := id B
  have hl := lv_entry ([.ref (a 0), .int p1, .int p2, .int p3]) (n := 4) (Nat.le_of_ble_eq_true rfl)
  rw [lg_entry_eq]
  generalize (lg_sl ([.ref (a 0), .int p1, .int p2, .int p3]) ++ List.replicate (4 - (lg_sl ([.ref (a 0), .int p1, .int p2, .int p3])).length) Slot.unset).toArray = ls at hl ⊢
  have hl : lv_has ls 4 [(0, .ref (a 0)), (1, .int p1), (2, .int p2), (3, .int p3)] := hl
  unfold fcJ_takeReason at h
  refine lv_iload_n hx hb dX4_takeReason_0 rfl (lv_at hl 2 rfl) ?_
  refine lv_iconst (v := (-1 : Int32)) hx hb dX4_takeReason_1 (by decide) ?_
  refine lv_icmp_ne (tgt := 7) hx hb dX4_takeReason_2 (by decide) (fun c1 => ?_) (fun c1 => ?_)
  · have h := if_t c1 h
    refine lv_aload_n hx hb dX4_takeReason_7 rfl (lv_at hl 0 rfl) ?_
    refine va_get (C := RX4) (T := TX4) (N := 4) (ci := 4) hx hb hts igX4 hown C.1 V.1 0 rfl rfl 2 (by decide) (hts _ kt_158) (fun _ h => h) rfl dX4_takeReason_8 ?_
    refine va_get (C := RX0) (T := TX0) (N := 11) (ci := 0) hx hb hts igX0 hown C.1 V.1 3 rfl rfl 8 (by decide) (hts _ kt_93) (fun _ h => h) rfl dX4_takeReason_11 ?_
    refine lv_iload_n hx hb dX4_takeReason_14 rfl (lv_at hl 1 rfl) ?_
    refine lv_iload_n hx hb dX4_takeReason_15 rfl (lv_at hl 2 rfl) ?_
    obtain ⟨i2, h⟩ := ck_e h
    obtain ⟨u3, eu3, h⟩ := gl_e h
    refine gw_iast (u' := u3) hx hb (cjW_as a cA) C V 19 0 rfl rfl i2 (cjS_14 _ _ _ _ _ _ eu3) dX4_takeReason_16 (fun H locs V => ?_)
    refine lv_aload_n hx hb dX4_takeReason_17 rfl (lv_at hl 0 rfl) ?_
    refine va_get (C := RX4) (T := TX4) (N := 4) (ci := 4) hx hb hts igX4 hown C.1 V.1 0 rfl rfl 2 (by decide) (hts _ kt_158) (fun _ h => h) rfl dX4_takeReason_18 ?_
    refine va_get (C := RX0) (T := TX0) (N := 11) (ci := 0) hx hb hts igX0 hown C.1 V.1 3 rfl rfl 9 (by decide) (hts _ kt_95) (fun _ h => h) rfl dX4_takeReason_21 ?_
    refine lv_iload_n hx hb dX4_takeReason_24 rfl (lv_at hl 1 rfl) ?_
    refine lv_iload_n hx hb dX4_takeReason_25 rfl (lv_at hl 3 rfl) ?_
    obtain ⟨i4, h⟩ := ck_e h
    obtain ⟨u5, eu5, h⟩ := gl_e h
    refine gw_iast (u' := u5) hx hb (cjW_as a cA) C V 20 0 rfl rfl i4 (cjS_15 _ _ _ _ _ _ eu5) dX4_takeReason_26 (fun H locs V => ?_)
    refine lv_iconst (v := (1 : Int32)) hx hb dX4_takeReason_27 (by decide) ?_
    exact gw_reti hx hb hr (nar_z (Or.inr rfl)) hlk V (in2a h) (in2b h) dX4_takeReason_28
  · have h := if_nn c1 h
    refine lv_iconst (v := (0 : Int32)) hx hb dX4_takeReason_5 (by decide) ?_
    exact gw_reti hx hb hr (nar_z (Or.inl rfl)) hlk V (in2a h) (in2b h) dX4_takeReason_6
set_option maxHeartbeats 4000000 in
theorem mX1_isWatchedFor {l : Launch} {D : va_G} {a : Nat → Nat} {cA : ClassId} {sz : Nat} {u : g_S} {p1 : Int32} {p2 : Int32} {rv : Int32} (h : fcE_isWatchedFor u p1 p2 = some rv) : gw_Mi D vwCl [(cA, .int)] (cjA a) gX (cjW a cA) l yX1_isWatchedFor wxX1_isWatchedFor rmX1_isWatchedFor sz u [.ref (a 4), .int p1, .int p2] rv u := by
  refine gw_Mof (Qc := fun z => va_Qi (gw_Pi rv u) (gw_W D vwCl (cjW a cA)) (rg (cjA a) z)) (cc := cX1_isWatchedFor) (maxL := 3) (ret := (some .boolean)) (by decide) rfl ?_
  intro p e s m below meth c B C V
  obtain ⟨hx, hb, hml, hown, hts, hr, hlk⟩ := id B
  have hl := lv_entry ([.ref (a 4), .int p1, .int p2]) (n := 3) (Nat.le_of_ble_eq_true rfl)
  rw [lg_entry_eq]
  generalize (lg_sl ([.ref (a 4), .int p1, .int p2]) ++ List.replicate (3 - (lg_sl ([.ref (a 4), .int p1, .int p2])).length) Slot.unset).toArray = ls at hl ⊢
  have hl : lv_has ls 3 [(0, .ref (a 4)), (1, .int p1), (2, .int p2)] := hl
  unfold fcE_isWatchedFor at h
  refine lv_aload_n hx hb dX1_isWatchedFor_0 rfl (lv_at hl 0 rfl) ?_
  refine va_get (C := RX1) (T := TX1) (N := 7) (ci := 1) hx hb hts igX1 hown C.1 V.1 4 rfl rfl 1 (by decide) (hts _ kt_129) (fun _ h => h) rfl dX1_isWatchedFor_1 ?_
  refine lv_iload_n hx hb dX1_isWatchedFor_4 rfl (lv_at hl 1 rfl) ?_
  obtain ⟨i1, h⟩ := ck_e h
  refine va_iald hx hb C.1 V.1 22 0 rfl rfl i1 dX1_isWatchedFor_5 ?_
  refine lv_if_ne (tgt := 33) hx hb dX1_isWatchedFor_6 (by decide) (fun c2 => ?_) (fun c2 => ?_)
  · have h := if_t c2 h
    refine lv_iconst (v := (0 : Int32)) hx hb dX1_isWatchedFor_33 (by decide) ?_
    exact gw_reti hx hb hr (nar_z (Or.inl rfl)) hlk V (Option.some.inj h) rfl dX1_isWatchedFor_34
  · have h := if_nn c2 h
    refine lv_aload_n hx hb dX1_isWatchedFor_9 rfl (lv_at hl 0 rfl) ?_
    refine va_get (C := RX1) (T := TX1) (N := 7) (ci := 1) hx hb hts igX1 hown C.1 V.1 4 rfl rfl 2 (by decide) (hts _ kt_131) (fun _ h => h) rfl dX1_isWatchedFor_10 ?_
    refine lv_iload_n hx hb dX1_isWatchedFor_13 rfl (lv_at hl 1 rfl) ?_
    obtain ⟨i3, h⟩ := ck_e h
    refine va_iald hx hb C.1 V.1 23 0 rfl rfl i3 dX1_isWatchedFor_14 ?_
    refine lv_iload_n hx hb dX1_isWatchedFor_15 rfl (lv_at hl 2 rfl) ?_
    refine lv_icmp_ne (tgt := 33) hx hb dX1_isWatchedFor_16 (by decide) (fun c4 => ?_) (fun c4 => ?_)
    · have h := if_t c4 h
      refine lv_iconst (v := (0 : Int32)) hx hb dX1_isWatchedFor_33 (by decide) ?_
      exact gw_reti hx hb hr (nar_z (Or.inl rfl)) hlk V (Option.some.inj h) rfl dX1_isWatchedFor_34
    · have h := if_nn c4 h
      refine lv_aload_n hx hb dX1_isWatchedFor_19 rfl (lv_at hl 0 rfl) ?_
      refine va_get (C := RX1) (T := TX1) (N := 7) (ci := 1) hx hb hts igX1 hown C.1 V.1 4 rfl rfl 4 (by decide) (hts _ kt_135) (fun _ h => h) rfl dX1_isWatchedFor_20 ?_
      refine lv_iload_n hx hb dX1_isWatchedFor_23 rfl (lv_at hl 1 rfl) ?_
      obtain ⟨i5, h⟩ := ck_e h
      refine va_iald hx hb C.1 V.1 25 0 rfl rfl i5 dX1_isWatchedFor_24 ?_
      refine lv_iconst (v := (-1 : Int32)) hx hb dX1_isWatchedFor_25 (by decide) ?_
      refine lv_icmp_eq (tgt := 33) hx hb dX1_isWatchedFor_26 (by decide) (fun c6 => ?_) (fun c6 => ?_)
      · have h := if_t c6 h
        refine lv_iconst (v := (0 : Int32)) hx hb dX1_isWatchedFor_33 (by decide) ?_
        exact gw_reti hx hb hr (nar_z (Or.inl rfl)) hlk V (Option.some.inj h) rfl dX1_isWatchedFor_34
      · have h := if_f c6 h
        refine lv_iconst (v := (1 : Int32)) hx hb dX1_isWatchedFor_29 (by decide) ?_
        refine lv_goto (tgt := 34) hx hb dX1_isWatchedFor_30 (by decide) ?_
        exact gw_reti hx hb hr (nar_z (Or.inr rfl)) hlk V (Option.some.inj h) rfl dX1_isWatchedFor_34
set_option maxHeartbeats 4000000 in
theorem mX4_eastOf {l : Launch} {D : va_G} {a : Nat → Nat} {cA : ClassId} {sz : Nat} {u : g_S} {p0 : Int32} {rv : Int32} (h : fcJ_eastOf p0 = some rv) : gw_Mi D vwCl [(cA, .int)] (cjA a) gX (cjW a cA) l yX4_eastOf wxX4_eastOf rmX4_eastOf sz u [.int p0] rv u := by
  refine gw_Mof (Qc := fun z => va_Qi (gw_Pi rv u) (gw_W D vwCl (cjW a cA)) (rg (cjA a) z)) (cc := cX4_eastOf) (maxL := 1) (ret := (some .int)) (by decide) rfl ?_
  intro p e s m below meth c B C V
  obtain ⟨hx, hb, hml, hown, hts, hr, hlk⟩ := id B
  have hl := lv_entry ([.int p0]) (n := 1) (Nat.le_of_ble_eq_true rfl)
  rw [lg_entry_eq]
  generalize (lg_sl ([.int p0]) ++ List.replicate (1 - (lg_sl ([.int p0])).length) Slot.unset).toArray = ls at hl ⊢
  have hl : lv_has ls 1 [(0, .int p0)] := hl
  unfold fcJ_eastOf at h
  refine lv_iload_n hx hb dX4_eastOf_0 rfl (lv_at hl 0 rfl) ?_
  refine lv_sipush (v := (10000 : Int32)) hx hb dX4_eastOf_1 (by decide) ?_
  refine lv_idiv hx hb dX4_eastOf_4 (by decide) ?_
  exact gw_reti hx hb hr rfl hlk V (Option.some.inj h) rfl dX4_eastOf_5
set_option maxHeartbeats 4000000 in
theorem mX4_northOf {l : Launch} {D : va_G} {a : Nat → Nat} {cA : ClassId} {sz : Nat} {u : g_S} {p0 : Int32} {rv : Int32} (h : fcJ_northOf p0 = some rv) : gw_Mi D vwCl [(cA, .int)] (cjA a) gX (cjW a cA) l yX4_northOf wxX4_northOf rmX4_northOf sz u [.int p0] rv u := by
  refine gw_Mof (Qc := fun z => va_Qi (gw_Pi rv u) (gw_W D vwCl (cjW a cA)) (rg (cjA a) z)) (cc := cX4_northOf) (maxL := 1) (ret := (some .int)) (by decide) rfl ?_
  intro p e s m below meth c B C V
  obtain ⟨hx, hb, hml, hown, hts, hr, hlk⟩ := id B
  have hl := lv_entry ([.int p0]) (n := 1) (Nat.le_of_ble_eq_true rfl)
  rw [lg_entry_eq]
  generalize (lg_sl ([.int p0]) ++ List.replicate (1 - (lg_sl ([.int p0])).length) Slot.unset).toArray = ls at hl ⊢
  have hl : lv_has ls 1 [(0, .int p0)] := hl
  unfold fcJ_northOf at h
  refine lv_iload_n hx hb dX4_northOf_0 rfl (lv_at hl 0 rfl) ?_
  refine lv_sipush (v := (10000 : Int32)) hx hb dX4_northOf_1 (by decide) ?_
  refine lv_irem hx hb dX4_northOf_4 (by decide) ?_
  exact gw_reti hx hb hr rfl hlk V (Option.some.inj h) rfl dX4_northOf_5
set_option maxHeartbeats 4000000 in
theorem mX4_squareBetween {l : Launch} {D : va_G} {a : Nat → Nat} {cA : ClassId} {sz : Nat} {u : g_S} {p0 : Int32} {p1 : Int32} {rv : Int64} (h : fcJ_squareBetween p0 p1 = some rv) : gw_Ml D vwCl [(cA, .int)] (cjA a) gX (cjW a cA) l yX4_squareBetween wxX4_squareBetween rmX4_squareBetween sz u [.int p0, .int p1] rv u := by
  refine gw_Mof (Qc := fun z => va_Ql (gw_Pl rv u) (gw_W D vwCl (cjW a cA)) (rg (cjA a) z)) (cc := cX4_squareBetween) (maxL := 6) (ret := (some .long)) (by decide) rfl ?_
  intro p e s m below meth c B C V
  obtain ⟨hx, hb, hml, hown, hts, hr, hlk⟩ := id B
  have hl := lv_entry ([.int p0, .int p1]) (n := 6) (Nat.le_of_ble_eq_true rfl)
  rw [lg_entry_eq]
  generalize (lg_sl ([.int p0, .int p1]) ++ List.replicate (6 - (lg_sl ([.int p0, .int p1])).length) Slot.unset).toArray = ls at hl ⊢
  have hl : lv_has ls 6 [(0, .int p0), (1, .int p1)] := hl
  unfold fcJ_squareBetween at h
  refine lv_iload_n hx hb dX4_squareBetween_0 rfl (lv_at hl 0 rfl) ?_
  obtain ⟨v1, hv1, h⟩ := bi_e h
  refine gw_ki V (va_runS (As := [.int p0]) (rest := []) ⟨hx, hb, hml, hown, hts⟩ (mX4_eastOf (D := D) (a := a) (cA := cA) (u := u) hv1) (cwS 1 hts gcjX4_270 rfl rfl rfl (by decide +kernel) ⟨Nat.le_of_ble_eq_true rfl, Nat.le_of_ble_eq_true rfl⟩) (gw_preS gX_ok C V [.int p0]) rfl rfl hl.1 rfl (lv_room (Nat.le_of_ble_eq_true rfl)) dX4_squareBetween_1 ⟨Nat.zero_le _, Nat.zero_le _⟩) (fun H locs V => ?_)
  refine lv_iload_n hx hb dX4_squareBetween_4 rfl (lv_at hl 1 rfl) ?_
  obtain ⟨v2, hv2, h⟩ := bi_e h
  refine gw_ki V (va_runS (As := [.int p1]) (rest := [.int v1]) ⟨hx, hb, hml, hown, hts⟩ (mX4_eastOf (D := D) (a := a) (cA := cA) (u := u) hv2) (cwS 1 hts gcjX4_270 rfl rfl rfl (by decide +kernel) ⟨Nat.le_of_ble_eq_true rfl, Nat.le_of_ble_eq_true rfl⟩) (gw_preS gX_ok C V [.int p1]) rfl rfl hl.1 rfl (lv_room (Nat.le_of_ble_eq_true rfl)) dX4_squareBetween_5 ⟨Nat.zero_le _, Nat.zero_le _⟩) (fun H locs V => ?_)
  refine lv_isub hx hb dX4_squareBetween_8 ?_
  refine lv_i2l (v := (Int32.toInt64 (v1 - v2))) hx hb dX4_squareBetween_9 rfl ?_
  obtain ⟨w3, ew3, h⟩ := gl_e h
  refine gw_nml ew3 ?_
  refine lv_lstore_n (lv' := [(2, .long w3), (0, .int p0), (1, .int p1)]) hx hb dX4_squareBetween_10 rfl hl (by decide) rfl (fun ls hl => ?_)
  refine lv_iload_n hx hb dX4_squareBetween_11 rfl (lv_at hl 1 rfl) ?_
  obtain ⟨v4, hv4, h⟩ := bi_e h
  refine gw_ki V (va_runS (As := [.int p0]) (rest := []) ⟨hx, hb, hml, hown, hts⟩ (mX4_northOf (D := D) (a := a) (cA := cA) (u := u) hv4) (cwS 1 hts gcjX4_273 rfl rfl rfl (by decide +kernel) ⟨Nat.le_of_ble_eq_true rfl, Nat.le_of_ble_eq_true rfl⟩) (gw_preS gX_ok C V [.int p0]) rfl rfl hl.1 rfl (lv_room (Nat.le_of_ble_eq_true rfl)) dX4_squareBetween_12 ⟨Nat.zero_le _, Nat.zero_le _⟩) (fun H locs V => ?_)
  refine lv_iload_n hx hb dX4_squareBetween_15 rfl (lv_at hl 2 rfl) ?_
  obtain ⟨v5, hv5, h⟩ := bi_e h
  refine gw_ki V (va_runS (As := [.int p1]) (rest := [.int v4]) ⟨hx, hb, hml, hown, hts⟩ (mX4_northOf (D := D) (a := a) (cA := cA) (u := u) hv5) (cwS 1 hts gcjX4_273 rfl rfl rfl (by decide +kernel) ⟨Nat.le_of_ble_eq_true rfl, Nat.le_of_ble_eq_true rfl⟩) (gw_preS gX_ok C V [.int p1]) rfl rfl hl.1 rfl (lv_room (Nat.le_of_ble_eq_true rfl)) dX4_squareBetween_16 ⟨Nat.zero_le _, Nat.zero_le _⟩) (fun H locs V => ?_)
  refine lv_isub hx hb dX4_squareBetween_19 ?_
  refine lv_i2l (v := (Int32.toInt64 (v4 - v5))) hx hb dX4_squareBetween_20 rfl ?_
  obtain ⟨w6, ew6, h⟩ := gl_e h
  refine gw_nml ew6 ?_
  refine lv_lstore (lv' := [(4, .long w6), (2, .long w3), (0, .int p0), (1, .int p1)]) hx hb dX4_squareBetween_21 hl (by decide) rfl (fun ls hl => ?_)
  refine lv_lload_n hx hb dX4_squareBetween_23 rfl (lv_at hl 1 rfl) ?_
  refine lv_lload_n hx hb dX4_squareBetween_24 rfl (lv_at hl 1 rfl) ?_
  refine lv_lmul hx hb dX4_squareBetween_25 ?_
  refine lv_lload hx hb dX4_squareBetween_26 (lv_at hl 0 rfl) ?_
  refine lv_lload hx hb dX4_squareBetween_28 (lv_at hl 0 rfl) ?_
  refine lv_lmul hx hb dX4_squareBetween_30 ?_
  refine lv_ladd hx hb dX4_squareBetween_31 ?_
  exact gw_retl hx hb hr hlk V (Option.some.inj h) rfl dX4_squareBetween_32
set_option maxHeartbeats 4000000 in
theorem mX2_isNearPiece {l : Launch} {D : va_G} {a : Nat → Nat} {cA : ClassId} {sz : Nat} {u : g_S} {p0 : Int32} {p1 : Int32} {p2 : Int32} {rv : Int32} (h : fcR_isNearPiece p0 p1 p2 = some rv) : gw_Mi D vwCl [(cA, .int)] (cjA a) gX (cjW a cA) l yX2_isNearPiece wxX2_isNearPiece rmX2_isNearPiece sz u [.int p0, .int p1, .int p2] rv u := by
  refine gw_Mof (Qc := fun z => va_Qi (gw_Pi rv u) (gw_W D vwCl (cjW a cA)) (rg (cjA a) z)) (cc := cX2_isNearPiece) (maxL := 17) (ret := (some .boolean)) (by decide) rfl ?_
  intro p e s m below meth c B C V
  obtain ⟨hx, hb, hml, hown, hts, hr, hlk⟩ := id B
  have hl := lv_entry ([.int p0, .int p1, .int p2]) (n := 17) (Nat.le_of_ble_eq_true rfl)
  rw [lg_entry_eq]
  generalize (lg_sl ([.int p0, .int p1, .int p2]) ++ List.replicate (17 - (lg_sl ([.int p0, .int p1, .int p2])).length) Slot.unset).toArray = ls at hl ⊢
  have hl : lv_has ls 17 [(0, .int p0), (1, .int p1), (2, .int p2)] := hl
  unfold fcR_isNearPiece at h
  refine lv_iload_n hx hb dX2_isNearPiece_0 rfl (lv_at hl 1 rfl) ?_
  obtain ⟨v1, hv1, h⟩ := bi_e h
  refine gw_ki V (va_runSN (As := [.int p1]) (rest := []) ⟨hx, hb, hml, hown, hts⟩ (mX4_eastOf (D := D) (a := a) (cA := cA) (u := u) hv1) ⟨va_cnB 1 hts (gT_good wxX4_eastOf_in) rfl rfl rfl (gX_n C.2.2 (.methodLinkNest RX2 22 yX4_eastOf "CallJoin") (by decide +kernel)) (hts _ kt_1) (by decide +kernel) ⟨Nat.le_of_ble_eq_true rfl, Nat.le_of_ble_eq_true rfl⟩, (hts _ kt_380), trivial⟩ (gw_preS gX_ok C V [.int p1]) rfl rfl hl.1 rfl (lv_room (Nat.le_of_ble_eq_true rfl)) dX2_isNearPiece_1 ⟨Nat.zero_le _, Nat.zero_le _⟩) (fun H locs V => ?_)
  refine lv_iload_n hx hb dX2_isNearPiece_4 rfl (lv_at hl 0 rfl) ?_
  obtain ⟨v2, hv2, h⟩ := bi_e h
  refine gw_ki V (va_runSN (As := [.int p0]) (rest := [.int v1]) ⟨hx, hb, hml, hown, hts⟩ (mX4_eastOf (D := D) (a := a) (cA := cA) (u := u) hv2) ⟨va_cnB 1 hts (gT_good wxX4_eastOf_in) rfl rfl rfl (gX_n C.2.2 (.methodLinkNest RX2 22 yX4_eastOf "CallJoin") (by decide +kernel)) (hts _ kt_1) (by decide +kernel) ⟨Nat.le_of_ble_eq_true rfl, Nat.le_of_ble_eq_true rfl⟩, (hts _ kt_380), trivial⟩ (gw_preS gX_ok C V [.int p0]) rfl rfl hl.1 rfl (lv_room (Nat.le_of_ble_eq_true rfl)) dX2_isNearPiece_5 ⟨Nat.zero_le _, Nat.zero_le _⟩) (fun H locs V => ?_)
  refine lv_isub hx hb dX2_isNearPiece_8 ?_
  refine lv_i2l (v := (Int32.toInt64 (v1 - v2))) hx hb dX2_isNearPiece_9 rfl ?_
  obtain ⟨w3, ew3, h⟩ := gl_e h
  refine gw_nml ew3 ?_
  refine lv_lstore_n (lv' := [(3, .long w3), (0, .int p0), (1, .int p1), (2, .int p2)]) hx hb dX2_isNearPiece_10 rfl hl (by decide) rfl (fun ls hl => ?_)
  refine lv_iload_n hx hb dX2_isNearPiece_11 rfl (lv_at hl 2 rfl) ?_
  obtain ⟨v4, hv4, h⟩ := bi_e h
  refine gw_ki V (va_runSN (As := [.int p1]) (rest := []) ⟨hx, hb, hml, hown, hts⟩ (mX4_northOf (D := D) (a := a) (cA := cA) (u := u) hv4) ⟨va_cnB 1 hts (gT_good wxX4_northOf_in) rfl rfl rfl (gX_n C.2.2 (.methodLinkNest RX2 26 yX4_northOf "CallJoin") (by decide +kernel)) (hts _ kt_1) (by decide +kernel) ⟨Nat.le_of_ble_eq_true rfl, Nat.le_of_ble_eq_true rfl⟩, (hts _ kt_383), trivial⟩ (gw_preS gX_ok C V [.int p1]) rfl rfl hl.1 rfl (lv_room (Nat.le_of_ble_eq_true rfl)) dX2_isNearPiece_12 ⟨Nat.zero_le _, Nat.zero_le _⟩) (fun H locs V => ?_)
  refine lv_iload_n hx hb dX2_isNearPiece_15 rfl (lv_at hl 1 rfl) ?_
  obtain ⟨v5, hv5, h⟩ := bi_e h
  refine gw_ki V (va_runSN (As := [.int p0]) (rest := [.int v4]) ⟨hx, hb, hml, hown, hts⟩ (mX4_northOf (D := D) (a := a) (cA := cA) (u := u) hv5) ⟨va_cnB 1 hts (gT_good wxX4_northOf_in) rfl rfl rfl (gX_n C.2.2 (.methodLinkNest RX2 26 yX4_northOf "CallJoin") (by decide +kernel)) (hts _ kt_1) (by decide +kernel) ⟨Nat.le_of_ble_eq_true rfl, Nat.le_of_ble_eq_true rfl⟩, (hts _ kt_383), trivial⟩ (gw_preS gX_ok C V [.int p0]) rfl rfl hl.1 rfl (lv_room (Nat.le_of_ble_eq_true rfl)) dX2_isNearPiece_16 ⟨Nat.zero_le _, Nat.zero_le _⟩) (fun H locs V => ?_)
  refine lv_isub hx hb dX2_isNearPiece_19 ?_
  refine lv_i2l (v := (Int32.toInt64 (v4 - v5))) hx hb dX2_isNearPiece_20 rfl ?_
  obtain ⟨w6, ew6, h⟩ := gl_e h
  refine gw_nml ew6 ?_
  refine lv_lstore (lv' := [(5, .long w6), (3, .long w3), (0, .int p0), (1, .int p1), (2, .int p2)]) hx hb dX2_isNearPiece_21 hl (by decide) rfl (fun ls hl => ?_)
  refine lv_iload_n hx hb dX2_isNearPiece_23 rfl (lv_at hl 4 rfl) ?_
  obtain ⟨v7, hv7, h⟩ := bi_e h
  refine gw_ki V (va_runSN (As := [.int p2]) (rest := []) ⟨hx, hb, hml, hown, hts⟩ (mX4_eastOf (D := D) (a := a) (cA := cA) (u := u) hv7) ⟨va_cnB 1 hts (gT_good wxX4_eastOf_in) rfl rfl rfl (gX_n C.2.2 (.methodLinkNest RX2 22 yX4_eastOf "CallJoin") (by decide +kernel)) (hts _ kt_1) (by decide +kernel) ⟨Nat.le_of_ble_eq_true rfl, Nat.le_of_ble_eq_true rfl⟩, (hts _ kt_380), trivial⟩ (gw_preS gX_ok C V [.int p2]) rfl rfl hl.1 rfl (lv_room (Nat.le_of_ble_eq_true rfl)) dX2_isNearPiece_24 ⟨Nat.zero_le _, Nat.zero_le _⟩) (fun H locs V => ?_)
  refine lv_iload_n hx hb dX2_isNearPiece_27 rfl (lv_at hl 2 rfl) ?_
  obtain ⟨v8, hv8, h⟩ := bi_e h
  refine gw_ki V (va_runSN (As := [.int p0]) (rest := [.int v7]) ⟨hx, hb, hml, hown, hts⟩ (mX4_eastOf (D := D) (a := a) (cA := cA) (u := u) hv8) ⟨va_cnB 1 hts (gT_good wxX4_eastOf_in) rfl rfl rfl (gX_n C.2.2 (.methodLinkNest RX2 22 yX4_eastOf "CallJoin") (by decide +kernel)) (hts _ kt_1) (by decide +kernel) ⟨Nat.le_of_ble_eq_true rfl, Nat.le_of_ble_eq_true rfl⟩, (hts _ kt_380), trivial⟩ (gw_preS gX_ok C V [.int p0]) rfl rfl hl.1 rfl (lv_room (Nat.le_of_ble_eq_true rfl)) dX2_isNearPiece_28 ⟨Nat.zero_le _, Nat.zero_le _⟩) (fun H locs V => ?_)
  refine lv_isub hx hb dX2_isNearPiece_31 ?_
  refine lv_i2l (v := (Int32.toInt64 (v7 - v8))) hx hb dX2_isNearPiece_32 rfl ?_
  obtain ⟨w9, ew9, h⟩ := gl_e h
  refine gw_nml ew9 ?_
  refine lv_lstore (lv' := [(7, .long w9), (5, .long w6), (3, .long w3), (0, .int p0), (1, .int p1), (2, .int p2)]) hx hb dX2_isNearPiece_33 hl (by decide) rfl (fun ls hl => ?_)
  refine lv_iload_n hx hb dX2_isNearPiece_35 rfl (lv_at hl 5 rfl) ?_
  obtain ⟨v10, hv10, h⟩ := bi_e h
  refine gw_ki V (va_runSN (As := [.int p2]) (rest := []) ⟨hx, hb, hml, hown, hts⟩ (mX4_northOf (D := D) (a := a) (cA := cA) (u := u) hv10) ⟨va_cnB 1 hts (gT_good wxX4_northOf_in) rfl rfl rfl (gX_n C.2.2 (.methodLinkNest RX2 26 yX4_northOf "CallJoin") (by decide +kernel)) (hts _ kt_1) (by decide +kernel) ⟨Nat.le_of_ble_eq_true rfl, Nat.le_of_ble_eq_true rfl⟩, (hts _ kt_383), trivial⟩ (gw_preS gX_ok C V [.int p2]) rfl rfl hl.1 rfl (lv_room (Nat.le_of_ble_eq_true rfl)) dX2_isNearPiece_36 ⟨Nat.zero_le _, Nat.zero_le _⟩) (fun H locs V => ?_)
  refine lv_iload_n hx hb dX2_isNearPiece_39 rfl (lv_at hl 3 rfl) ?_
  obtain ⟨v11, hv11, h⟩ := bi_e h
  refine gw_ki V (va_runSN (As := [.int p0]) (rest := [.int v10]) ⟨hx, hb, hml, hown, hts⟩ (mX4_northOf (D := D) (a := a) (cA := cA) (u := u) hv11) ⟨va_cnB 1 hts (gT_good wxX4_northOf_in) rfl rfl rfl (gX_n C.2.2 (.methodLinkNest RX2 26 yX4_northOf "CallJoin") (by decide +kernel)) (hts _ kt_1) (by decide +kernel) ⟨Nat.le_of_ble_eq_true rfl, Nat.le_of_ble_eq_true rfl⟩, (hts _ kt_383), trivial⟩ (gw_preS gX_ok C V [.int p0]) rfl rfl hl.1 rfl (lv_room (Nat.le_of_ble_eq_true rfl)) dX2_isNearPiece_40 ⟨Nat.zero_le _, Nat.zero_le _⟩) (fun H locs V => ?_)
  refine lv_isub hx hb dX2_isNearPiece_43 ?_
  refine lv_i2l (v := (Int32.toInt64 (v10 - v11))) hx hb dX2_isNearPiece_44 rfl ?_
  obtain ⟨w12, ew12, h⟩ := gl_e h
  refine gw_nml ew12 ?_
  refine lv_lstore (lv' := [(9, .long w12), (7, .long w9), (5, .long w6), (3, .long w3), (0, .int p0), (1, .int p1), (2, .int p2)]) hx hb dX2_isNearPiece_45 hl (by decide) rfl (fun ls hl => ?_)
  refine lv_lload hx hb dX2_isNearPiece_47 (lv_at hl 1 rfl) ?_
  refine lv_lload_n hx hb dX2_isNearPiece_49 rfl (lv_at hl 3 rfl) ?_
  refine lv_lmul hx hb dX2_isNearPiece_50 ?_
  refine lv_lload hx hb dX2_isNearPiece_51 (lv_at hl 0 rfl) ?_
  refine lv_lload hx hb dX2_isNearPiece_53 (lv_at hl 2 rfl) ?_
  refine lv_lmul hx hb dX2_isNearPiece_55 ?_
  refine lv_ladd hx hb dX2_isNearPiece_56 ?_
  obtain ⟨w13, ew13, h⟩ := gl_e h
  refine gw_nml ew13 ?_
  refine lv_lstore (lv' := [(11, .long w13), (9, .long w12), (7, .long w9), (5, .long w6), (3, .long w3), (0, .int p0), (1, .int p1), (2, .int p2)]) hx hb dX2_isNearPiece_57 hl (by decide) rfl (fun ls hl => ?_)
  refine lv_lload_n hx hb dX2_isNearPiece_59 rfl (lv_at hl 4 rfl) ?_
  refine lv_lload_n hx hb dX2_isNearPiece_60 rfl (lv_at hl 4 rfl) ?_
  refine lv_lmul hx hb dX2_isNearPiece_61 ?_
  refine lv_lload hx hb dX2_isNearPiece_62 (lv_at hl 3 rfl) ?_
  refine lv_lload hx hb dX2_isNearPiece_64 (lv_at hl 3 rfl) ?_
  refine lv_lmul hx hb dX2_isNearPiece_66 ?_
  refine lv_ladd hx hb dX2_isNearPiece_67 ?_
  obtain ⟨w14, ew14, h⟩ := gl_e h
  refine gw_nml ew14 ?_
  refine lv_lstore (lv' := [(13, .long w14), (11, .long w13), (9, .long w12), (7, .long w9), (5, .long w6), (3, .long w3), (0, .int p0), (1, .int p1), (2, .int p2)]) hx hb dX2_isNearPiece_68 hl (by decide) rfl (fun ls hl => ?_)
  refine lv_lload hx hb dX2_isNearPiece_70 (lv_at hl 1 rfl) ?_
  refine lv_lconst (v := (0 : Int64)) hx hb dX2_isNearPiece_72 (by decide) ?_
  refine W.lcmp hx hb dX2_isNearPiece_73 ?_
  refine lv_if_gt (tgt := 95) hx hb dX2_isNearPiece_74 (by decide) (fun c15 => ?_) (fun c15 => ?_)
  · have h := if_t c15 h
    refine lv_lload hx hb dX2_isNearPiece_95 (lv_at hl 1 rfl) ?_
    refine lv_lload hx hb dX2_isNearPiece_97 (lv_at hl 0 rfl) ?_
    refine W.lcmp hx hb dX2_isNearPiece_99 ?_
    refine lv_if_lt (tgt := 121) hx hb dX2_isNearPiece_100 (by decide) (fun c16 => ?_) (fun c16 => ?_)
    · have h := if_t c16 h
      refine lv_lload hx hb dX2_isNearPiece_121 (lv_at hl 3 rfl) ?_
      refine lv_lload hx hb dX2_isNearPiece_123 (lv_at hl 4 rfl) ?_
      refine lv_lmul hx hb dX2_isNearPiece_125 ?_
      refine lv_lload hx hb dX2_isNearPiece_126 (lv_at hl 2 rfl) ?_
      refine lv_lload_n hx hb dX2_isNearPiece_128 rfl (lv_at hl 5 rfl) ?_
      refine lv_lmul hx hb dX2_isNearPiece_129 ?_
      refine lv_lsub hx hb dX2_isNearPiece_130 ?_
      obtain ⟨w17, ew17, h⟩ := gl_e h
      refine gw_nml ew17 ?_
      refine lv_lstore (lv' := [(15, .long w17), (13, .long w14), (11, .long w13), (9, .long w12), (7, .long w9), (5, .long w6), (3, .long w3), (0, .int p0), (1, .int p1), (2, .int p2)]) hx hb dX2_isNearPiece_131 hl (by decide) rfl (fun ls hl => ?_)
      refine lv_lload hx hb dX2_isNearPiece_133 (lv_at hl 0 rfl) ?_
      refine lv_lload hx hb dX2_isNearPiece_135 (lv_at hl 0 rfl) ?_
      refine lv_lmul hx hb dX2_isNearPiece_137 ?_
      refine lv_ldc2 (v := (2500 : Int64)) hx hb hown (hts _ kt_390) dX2_isNearPiece_138 ?_
      refine lv_lload hx hb dX2_isNearPiece_141 (lv_at hl 1 rfl) ?_
      refine lv_lmul hx hb dX2_isNearPiece_143 ?_
      refine W.lcmp hx hb dX2_isNearPiece_144 ?_
      refine lv_if_gt (tgt := 152) hx hb dX2_isNearPiece_145 (by decide) (fun c18 => ?_) (fun c18 => ?_)
      · have h := if_t c18 h
        refine lv_iconst (v := (0 : Int32)) hx hb dX2_isNearPiece_152 (by decide) ?_
        exact gw_reti hx hb hr (nar_z (Or.inl rfl)) hlk V (Option.some.inj h) rfl dX2_isNearPiece_153
      · have h := if_f c18 h
        refine lv_iconst (v := (1 : Int32)) hx hb dX2_isNearPiece_148 (by decide) ?_
        refine lv_goto (tgt := 153) hx hb dX2_isNearPiece_149 (by decide) ?_
        exact gw_reti hx hb hr (nar_z (Or.inr rfl)) hlk V (Option.some.inj h) rfl dX2_isNearPiece_153
    · have h := if_f c16 h
      refine lv_iload_n hx hb dX2_isNearPiece_103 rfl (lv_at hl 7 rfl) ?_
      refine lv_iload_n hx hb dX2_isNearPiece_104 rfl (lv_at hl 8 rfl) ?_
      obtain ⟨v19, hv19, h⟩ := bi_e h
      refine gw_kl V (va_runSN (As := [.int p1, .int p2]) (rest := []) ⟨hx, hb, hml, hown, hts⟩ (mX4_squareBetween (D := D) (a := a) (cA := cA) (u := u) hv19) ⟨va_cnB 2 hts (gT_good wxX4_squareBetween_in) rfl rfl rfl (gX_n C.2.2 (.methodLinkNest RX2 29 yX4_squareBetween "CallJoin") (by decide +kernel)) (hts _ kt_1) (by decide +kernel) ⟨Nat.le_of_ble_eq_true rfl, Nat.le_of_ble_eq_true rfl⟩, (hts _ kt_386), trivial⟩ (gw_preS gX_ok C V [.int p1, .int p2]) rfl rfl hl.1 rfl (lv_room (Nat.le_of_ble_eq_true rfl)) dX2_isNearPiece_105 ⟨Nat.zero_le _, Nat.zero_le _⟩) (fun H locs V => ?_)
      refine lv_ldc2 (v := (2500 : Int64)) hx hb hown (hts _ kt_390) dX2_isNearPiece_108 ?_
      refine W.lcmp hx hb dX2_isNearPiece_111 ?_
      refine lv_if_gt (tgt := 119) hx hb dX2_isNearPiece_112 (by decide) (fun c20 => ?_) (fun c20 => ?_)
      · have h := if_t c20 h
        refine lv_iconst (v := (0 : Int32)) hx hb dX2_isNearPiece_119 (by decide) ?_
        exact gw_reti hx hb hr (nar_z (Or.inl rfl)) hlk V (Option.some.inj h) rfl dX2_isNearPiece_120
      · have h := if_f c20 h
        refine lv_iconst (v := (1 : Int32)) hx hb dX2_isNearPiece_115 (by decide) ?_
        refine lv_goto (tgt := 120) hx hb dX2_isNearPiece_116 (by decide) ?_
        exact gw_reti hx hb hr (nar_z (Or.inr rfl)) hlk V (Option.some.inj h) rfl dX2_isNearPiece_120
  · have h := if_f c15 h
    refine lv_iload_n hx hb dX2_isNearPiece_77 rfl (lv_at hl 6 rfl) ?_
    refine lv_iload_n hx hb dX2_isNearPiece_78 rfl (lv_at hl 8 rfl) ?_
    obtain ⟨v21, hv21, h⟩ := bi_e h
    refine gw_kl V (va_runSN (As := [.int p0, .int p2]) (rest := []) ⟨hx, hb, hml, hown, hts⟩ (mX4_squareBetween (D := D) (a := a) (cA := cA) (u := u) hv21) ⟨va_cnB 2 hts (gT_good wxX4_squareBetween_in) rfl rfl rfl (gX_n C.2.2 (.methodLinkNest RX2 29 yX4_squareBetween "CallJoin") (by decide +kernel)) (hts _ kt_1) (by decide +kernel) ⟨Nat.le_of_ble_eq_true rfl, Nat.le_of_ble_eq_true rfl⟩, (hts _ kt_386), trivial⟩ (gw_preS gX_ok C V [.int p0, .int p2]) rfl rfl hl.1 rfl (lv_room (Nat.le_of_ble_eq_true rfl)) dX2_isNearPiece_79 ⟨Nat.zero_le _, Nat.zero_le _⟩) (fun H locs V => ?_)
    refine lv_ldc2 (v := (2500 : Int64)) hx hb hown (hts _ kt_390) dX2_isNearPiece_82 ?_
    refine W.lcmp hx hb dX2_isNearPiece_85 ?_
    refine lv_if_gt (tgt := 93) hx hb dX2_isNearPiece_86 (by decide) (fun c22 => ?_) (fun c22 => ?_)
    · have h := if_t c22 h
      refine lv_iconst (v := (0 : Int32)) hx hb dX2_isNearPiece_93 (by decide) ?_
      exact gw_reti hx hb hr (nar_z (Or.inl rfl)) hlk V (Option.some.inj h) rfl dX2_isNearPiece_94
    · have h := if_f c22 h
      refine lv_iconst (v := (1 : Int32)) hx hb dX2_isNearPiece_89 (by decide) ?_
      refine lv_goto (tgt := 94) hx hb dX2_isNearPiece_90 (by decide) ?_
      exact gw_reti hx hb hr (nar_z (Or.inr rfl)) hlk V (Option.some.inj h) rfl dX2_isNearPiece_94
