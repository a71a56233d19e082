set_option maxHeartbeats 4000000 in
theorem mX6_isOpen {l : Launch} {D : va_G} {a : Nat → Nat} {cA : ClassId} {sz : Nat} {u : g_S} {p1 : Int32} {rv : Int32} (h : fm_isOpen u p1 = some rv) : gw_Mi D vwCl [(cA, .int)] (mdA a) gY (mdW a cA) l yX6_isOpen wxX6_isOpen rmX6_isOpen sz u [.ref (a 0), .int p1] rv u := by
  refine gw_Mof (Qc := fun z => va_Qi (gw_Pi rv u) (gw_W D vwCl (mdW a cA)) (rg (mdA a) z)) (cc := cX6_isOpen) (maxL := 2) (ret := (some .boolean)) (by decide) rfl ?_
  intro p e s m below meth c B C V
  obtain ⟨hx, hb, hml, hown, hts, hr, hlk⟩ := id B
  have hl := lv_entry ([.ref (a 0), .int p1]) (n := 2) (Nat.le_of_ble_eq_true rfl)
  rw [lg_entry_eq]
  generalize (lg_sl ([.ref (a 0), .int p1]) ++ List.replicate (2 - (lg_sl ([.ref (a 0), .int p1])).length) Slot.unset).toArray = ls at hl ⊢
  have hl : lv_has ls 2 [(0, .ref (a 0)), (1, .int p1)] := hl
  unfold fm_isOpen at h
  refine lv_aload_n hx hb dX6_isOpen_0 rfl (lv_at hl 0 rfl) ?_
  refine va_get (C := RX6) (T := TX6) (N := 24) (ci := 5) hx hb hts igX6 hown C.1 V.1 0 rfl rfl 19 (by decide) (hts _ kt_622) (fun _ h => h) rfl dX6_isOpen_1 ?_
  refine lv_aload_n hx hb dX6_isOpen_4 rfl (lv_at hl 0 rfl) ?_
  refine va_get (C := RX6) (T := TX6) (N := 24) (ci := 5) hx hb hts igX6 hown C.1 V.1 0 rfl rfl 15 (by decide) (hts _ kt_618) (fun _ h => h) rfl dX6_isOpen_5 ?_
  refine lv_iload_n hx hb dX6_isOpen_8 rfl (lv_at hl 1 rfl) ?_
  obtain ⟨i1, h⟩ := ck_e h
  refine va_iald hx hb C.1 V.1 13 0 rfl rfl i1 dX6_isOpen_9 ?_
  obtain ⟨i2, h⟩ := ck_e h
  refine va_iald hx hb C.1 V.1 17 0 rfl rfl i2 dX6_isOpen_10 ?_
  refine lv_if_ne (tgt := 18) hx hb dX6_isOpen_11 (by decide) (fun c3 => ?_) (fun c3 => ?_)
  · have h := if_t c3 h
    refine lv_iconst (v := (0 : Int32)) hx hb dX6_isOpen_18 (by decide) ?_
    exact gw_reti hx hb hr (nar_z (Or.inl rfl)) hlk V (Option.some.inj h) rfl dX6_isOpen_19
  · have h := if_nn c3 h
    refine lv_iconst (v := (1 : Int32)) hx hb dX6_isOpen_14 (by decide) ?_
    refine lv_goto (tgt := 19) hx hb dX6_isOpen_15 (by decide) ?_
    exact gw_reti hx hb hr (nar_z (Or.inr rfl)) hlk V (Option.some.inj h) rfl dX6_isOpen_19
set_option maxHeartbeats 4000000 in
theorem mX6_isHoax {l : Launch} {D : va_G} {a : Nat → Nat} {cA : ClassId} {sz : Nat} {u : g_S} {p1 : Int32} {rv : Int32} (h : fm_isHoax u p1 = some rv) : gw_Mi D vwCl [(cA, .int)] (mdA a) gY (mdW a cA) l yX6_isHoax wxX6_isHoax rmX6_isHoax sz u [.ref (a 0), .int p1] rv u := by
  refine gw_Mof (Qc := fun z => va_Qi (gw_Pi rv u) (gw_W D vwCl (mdW a cA)) (rg (mdA a) z)) (cc := cX6_isHoax) (maxL := 2) (ret := (some .boolean)) (by decide) rfl ?_
  intro p e s m below meth c B C V
  obtain ⟨hx, hb, hml, hown, hts, hr, hlk⟩ := id B
  have hl := lv_entry ([.ref (a 0), .int p1]) (n := 2) (Nat.le_of_ble_eq_true rfl)
  rw [lg_entry_eq]
  generalize (lg_sl ([.ref (a 0), .int p1]) ++ List.replicate (2 - (lg_sl ([.ref (a 0), .int p1])).length) Slot.unset).toArray = ls at hl ⊢
  have hl : lv_has ls 2 [(0, .ref (a 0)), (1, .int p1)] := hl
  unfold fm_isHoax at h
  refine lv_aload_n hx hb dX6_isHoax_0 rfl (lv_at hl 0 rfl) ?_
  refine va_get (C := RX6) (T := TX6) (N := 24) (ci := 5) hx hb hts igX6 hown C.1 V.1 0 rfl rfl 17 (by decide) (hts _ kt_620) (fun _ h => h) rfl dX6_isHoax_1 ?_
  refine lv_iload_n hx hb dX6_isHoax_4 rfl (lv_at hl 1 rfl) ?_
  obtain ⟨i1, h⟩ := ck_e h
  refine va_iald hx hb C.1 V.1 15 0 rfl rfl i1 dX6_isHoax_5 ?_
  refine lv_iconst (v := (4 : Int32)) hx hb dX6_isHoax_6 (by decide) ?_
  refine lv_iand hx hb dX6_isHoax_7 ?_
  refine lv_if_eq (tgt := 15) hx hb dX6_isHoax_8 (by decide) (fun c2 => ?_) (fun c2 => ?_)
  · have h := if_t c2 h
    refine lv_iconst (v := (0 : Int32)) hx hb dX6_isHoax_15 (by decide) ?_
    exact gw_reti hx hb hr (nar_z (Or.inl rfl)) hlk V (Option.some.inj h) rfl dX6_isHoax_16
  · have h := if_f c2 h
    refine lv_iconst (v := (1 : Int32)) hx hb dX6_isHoax_11 (by decide) ?_
    refine lv_goto (tgt := 16) hx hb dX6_isHoax_12 (by decide) ?_
    exact gw_reti hx hb hr (nar_z (Or.inr rfl)) hlk V (Option.some.inj h) rfl dX6_isHoax_16
set_option maxHeartbeats 4000000 in
theorem LX6_firstOf_2 {p : Program} {l : Launch} {e : Env} {s : State} {m : MethodId} {below : List Frame} {meth : Method} {c : Code} {args : Array Value} {D : va_G} {a : Nat → Nat} {cA : ClassId} (B : gw_B p s m args meth c cX6_firstOf 3 (some .int) RX6 gT) (C : gw_C D vwCl [(cA, .int)] (mdA a) gY s) {rv : Int32} {u : g_S} : ∀ (n : Nat) (x1 : Int32) (x2 : Int32) (H : Heap) (locs : List Loc) (ls : Array Slot), gw_V D vwCl (mdA a) (mdW a cA) s u H locs → lv_has ls 3 [(0, .ref (a 0)), (1, .int x1), (2, .int x2)] → fm_firstOf_2 u n x1 x2 = some rv → W p l e rmX6_firstOf s m args below meth c H locs 0 0 (gw_Ei D vwCl (mdA a) (mdW a cA) below args s rv u) (F0 m 2 ls []) := by
  obtain ⟨hx, hb, hml, hown, hts, hr, hlk⟩ := id B
  intro n
  induction n with
  | zero =>
    intro x1 x2 H locs ls V hl h
    cases h
  | succ n ih =>
    intro x1 x2 H locs ls V hl h
    rw [fm_firstOf_2_s] at h
    refine lv_iload_n hx hb dX6_firstOf_2 rfl (lv_at hl 2 rfl) ?_
    refine lv_aload_n hx hb dX6_firstOf_3 rfl (lv_at hl 0 rfl) ?_
    refine va_get (C := RX6) (T := TX6) (N := 24) (ci := 5) hx hb hts igX6 hown C.1 V.1 0 rfl rfl 8 (by decide) (hts _ kt_611) (fun _ h => h) rfl dX6_firstOf_4 ?_
    refine lv_icmp_ge (tgt := 37) hx hb dX6_firstOf_7 (by decide) (fun c1 => ?_) (fun c1 => ?_)
    · have h := if_t c1 h
      refine lv_iconst (v := (-1 : Int32)) hx hb dX6_firstOf_37 (by decide) ?_
      exact gw_reti hx hb hr rfl hlk V (Option.some.inj h) rfl dX6_firstOf_38
    · have h := if_f c1 h
      refine lv_aload_n hx hb dX6_firstOf_10 rfl (lv_at hl 0 rfl) ?_
      refine va_get (C := RX6) (T := TX6) (N := 24) (ci := 5) hx hb hts igX6 hown C.1 V.1 0 rfl rfl 15 (by decide) (hts _ kt_618) (fun _ h => h) rfl dX6_firstOf_11 ?_
      refine lv_iload_n hx hb dX6_firstOf_14 rfl (lv_at hl 2 rfl) ?_
      obtain ⟨i2, h⟩ := ck_e h
      refine va_iald hx hb C.1 V.1 13 0 rfl rfl i2 dX6_firstOf_15 ?_
      refine lv_iload_n hx hb dX6_firstOf_16 rfl (lv_at hl 1 rfl) ?_
      refine lv_icmp_ne (tgt := 31) hx hb dX6_firstOf_17 (by decide) (fun c3 => ?_) (fun c3 => ?_)
      · have h := if_t c3 h
        refine lv_iinc (v := (x2 + (1 : Int32))) (lv' := [(2, .int (x2 + (1 : Int32))), (0, .ref (a 0)), (1, .int x1)]) hx hb dX6_firstOf_31 hl (k := 2) rfl rfl (by decide) rfl (fun ls hl => ?_)
        refine lv_goto (tgt := 2) hx hb dX6_firstOf_34 (by decide) ?_
        exact ih x1 (x2 + (1 : Int32)) _ _ _ V (lv_sub hl [1, 2, 0] rfl) h
      · have h := if_nn c3 h
        refine lv_aload_n hx hb dX6_firstOf_20 rfl (lv_at hl 0 rfl) ?_
        refine va_get (C := RX6) (T := TX6) (N := 24) (ci := 5) hx hb hts igX6 hown C.1 V.1 0 rfl rfl 16 (by decide) (hts _ kt_619) (fun _ h => h) rfl dX6_firstOf_21 ?_
        refine lv_iload_n hx hb dX6_firstOf_24 rfl (lv_at hl 2 rfl) ?_
        obtain ⟨i4, h⟩ := ck_e h
        refine va_iald hx hb C.1 V.1 14 0 rfl rfl i4 dX6_firstOf_25 ?_
        refine lv_if_ge (tgt := 31) hx hb dX6_firstOf_26 (by decide) (fun c5 => ?_) (fun c5 => ?_)
        · have h := if_t c5 h
          refine lv_iinc (v := (x2 + (1 : Int32))) (lv' := [(2, .int (x2 + (1 : Int32))), (0, .ref (a 0)), (1, .int x1)]) hx hb dX6_firstOf_31 hl (k := 2) rfl rfl (by decide) rfl (fun ls hl => ?_)
          refine lv_goto (tgt := 2) hx hb dX6_firstOf_34 (by decide) ?_
          exact ih x1 (x2 + (1 : Int32)) _ _ _ V (lv_sub hl [1, 2, 0] rfl) h
        · have h := if_f c5 h
          refine lv_iload_n hx hb dX6_firstOf_29 rfl (lv_at hl 2 rfl) ?_
          exact gw_reti hx hb hr rfl hlk V (Option.some.inj h) rfl dX6_firstOf_30
set_option maxHeartbeats 4000000 in
theorem mX6_firstOf {l : Launch} {D : va_G} {a : Nat → Nat} {cA : ClassId} {sz : Nat} {u : g_S} {p1 : Int32} {rv : Int32} (h : fm_firstOf u p1 = some rv) : gw_Mi D vwCl [(cA, .int)] (mdA a) gY (mdW a cA) l yX6_firstOf wxX6_firstOf rmX6_firstOf sz u [.ref (a 0), .int p1] rv u := by
  refine gw_Mof (Qc := fun z => va_Qi (gw_Pi rv u) (gw_W D vwCl (mdW a cA)) (rg (mdA a) z)) (cc := cX6_firstOf) (maxL := 3) (ret := (some .int)) (by decide) rfl ?_
  intro p e s m below meth c B C V
  obtain ⟨hx, hb, hml, hown, hts, hr, hlk⟩ := id B
  have hl := lv_entry ([.ref (a 0), .int p1]) (n := 3) (Nat.le_of_ble_eq_true rfl)
  rw [lg_entry_eq]
  generalize (lg_sl ([.ref (a 0), .int p1]) ++ List.replicate (3 - (lg_sl ([.ref (a 0), .int p1])).length) Slot.unset).toArray = ls at hl ⊢
  have hl : lv_has ls 3 [(0, .ref (a 0)), (1, .int p1)] := hl
  unfold fm_firstOf at h
  refine lv_iconst (v := (0 : Int32)) hx hb dX6_firstOf_0 (by decide) ?_
  refine lv_istore_n (lv' := [(2, .int (0 : Int32)), (0, .ref (a 0)), (1, .int p1)]) hx hb dX6_firstOf_1 rfl hl (by decide) rfl (fun ls hl => ?_)
  exact LX6_firstOf_2 B C 200 p1 (0 : Int32) _ _ _ V (lv_sub hl [1, 2, 0] rfl) h
set_option maxHeartbeats 4000000 in
theorem mX6_isBeside {l : Launch} {D : va_G} {a : Nat → Nat} {cA : ClassId} {sz : Nat} {u : g_S} {p0 : Int32} {p1 : Int32} {p2 : Int32} {rv : Int32} (h : fm_isBeside p0 p1 p2 = some rv) : gw_Mi D vwCl [(cA, .int)] (mdA a) gY (mdW a cA) l yX6_isBeside wxX6_isBeside rmX6_isBeside sz u [.int p0, .int p1, .int p2] rv u := by
  refine gw_Mof (Qc := fun z => va_Qi (gw_Pi rv u) (gw_W D vwCl (mdW a cA)) (rg (mdA a) z)) (cc := cX6_isBeside) (maxL := 17) (ret := (some .boolean)) (by decide) rfl ?_
  intro p e s m below meth c B C V
  obtain ⟨hx, hb, hml, hown, hts, hr, hlk⟩ := id B
  have hl := lv_entry ([.int p0, .int p1, .int p2]) (n := 17) (Nat.le_of_ble_eq_true rfl)
  rw [lg_entry_eq]
  generalize (lg_sl ([.int p0, .int p1, .int p2]) ++ List.replicate (17 - (lg_sl ([.int p0, .int p1, .int p2])).length) Slot.unset).toArray = ls at hl ⊢
  have hl : lv_has ls 17 [(0, .int p0), (1, .int p1), (2, .int p2)] := hl
  unfold fm_isBeside at h
  refine lv_iload_n hx hb dX6_isBeside_0 rfl (lv_at hl 0 rfl) ?_
  refine lv_sipush (v := (10000 : Int32)) hx hb dX6_isBeside_1 (by decide) ?_
  refine lv_idiv hx hb dX6_isBeside_4 (by decide) ?_
  refine lv_iload_n hx hb dX6_isBeside_5 rfl (lv_at hl 1 rfl) ?_
  refine lv_sipush (v := (10000 : Int32)) hx hb dX6_isBeside_6 (by decide) ?_
  refine lv_idiv hx hb dX6_isBeside_9 (by decide) ?_
  refine lv_isub hx hb dX6_isBeside_10 ?_
  refine lv_i2l (v := (Int32.toInt64 ((p0 / (10000 : Int32)) - (p1 / (10000 : Int32))))) hx hb dX6_isBeside_11 rfl ?_
  obtain ⟨w1, ew1, h⟩ := gl_e h
  refine gw_nml ew1 ?_
  refine lv_lstore_n (lv' := [(3, .long w1), (0, .int p0), (1, .int p1), (2, .int p2)]) hx hb dX6_isBeside_12 rfl hl (by decide) rfl (fun ls hl => ?_)
  refine lv_iload_n hx hb dX6_isBeside_13 rfl (lv_at hl 1 rfl) ?_
  refine lv_sipush (v := (10000 : Int32)) hx hb dX6_isBeside_14 (by decide) ?_
  refine lv_irem hx hb dX6_isBeside_17 (by decide) ?_
  refine lv_iload_n hx hb dX6_isBeside_18 rfl (lv_at hl 2 rfl) ?_
  refine lv_sipush (v := (10000 : Int32)) hx hb dX6_isBeside_19 (by decide) ?_
  refine lv_irem hx hb dX6_isBeside_22 (by decide) ?_
  refine lv_isub hx hb dX6_isBeside_23 ?_
  refine lv_i2l (v := (Int32.toInt64 ((p0 - p0 / (10000 : Int32) * (10000 : Int32)) - (p1 - p1 / (10000 : Int32) * (10000 : Int32))))) hx hb dX6_isBeside_24 rfl ?_
  obtain ⟨w2, ew2, h⟩ := gl_e h
  refine gw_nml ew2 ?_
  refine lv_lstore (lv' := [(5, .long w2), (3, .long w1), (0, .int p0), (1, .int p1), (2, .int p2)]) hx hb dX6_isBeside_25 hl (by decide) rfl (fun ls hl => ?_)
  refine lv_iload_n hx hb dX6_isBeside_27 rfl (lv_at hl 4 rfl) ?_
  refine lv_sipush (v := (10000 : Int32)) hx hb dX6_isBeside_28 (by decide) ?_
  refine lv_idiv hx hb dX6_isBeside_31 (by decide) ?_
  refine lv_iload_n hx hb dX6_isBeside_32 rfl (lv_at hl 3 rfl) ?_
  refine lv_sipush (v := (10000 : Int32)) hx hb dX6_isBeside_33 (by decide) ?_
  refine lv_idiv hx hb dX6_isBeside_36 (by decide) ?_
  refine lv_isub hx hb dX6_isBeside_37 ?_
  refine lv_i2l (v := (Int32.toInt64 ((p2 / (10000 : Int32)) - (p1 / (10000 : Int32))))) hx hb dX6_isBeside_38 rfl ?_
  obtain ⟨w3, ew3, h⟩ := gl_e h
  refine gw_nml ew3 ?_
  refine lv_lstore (lv' := [(7, .long w3), (5, .long w2), (3, .long w1), (0, .int p0), (1, .int p1), (2, .int p2)]) hx hb dX6_isBeside_39 hl (by decide) rfl (fun ls hl => ?_)
  refine lv_iload_n hx hb dX6_isBeside_41 rfl (lv_at hl 5 rfl) ?_
  refine lv_sipush (v := (10000 : Int32)) hx hb dX6_isBeside_42 (by decide) ?_
  refine lv_irem hx hb dX6_isBeside_45 (by decide) ?_
  refine lv_iload_n hx hb dX6_isBeside_46 rfl (lv_at hl 4 rfl) ?_
  refine lv_sipush (v := (10000 : Int32)) hx hb dX6_isBeside_47 (by decide) ?_
  refine lv_irem hx hb dX6_isBeside_50 (by decide) ?_
  refine lv_isub hx hb dX6_isBeside_51 ?_
  refine lv_i2l (v := (Int32.toInt64 ((p2 - p2 / (10000 : Int32) * (10000 : Int32)) - (p1 - p1 / (10000 : Int32) * (10000 : Int32))))) hx hb dX6_isBeside_52 rfl ?_
  obtain ⟨w4, ew4, h⟩ := gl_e h
  refine gw_nml ew4 ?_
  refine lv_lstore (lv' := [(9, .long w4), (7, .long w3), (5, .long w2), (3, .long w1), (0, .int p0), (1, .int p1), (2, .int p2)]) hx hb dX6_isBeside_53 hl (by decide) rfl (fun ls hl => ?_)
  refine lv_lload_n hx hb dX6_isBeside_55 rfl (lv_at hl 3 rfl) ?_
  refine lv_lload hx hb dX6_isBeside_56 (lv_at hl 1 rfl) ?_
  refine lv_lmul hx hb dX6_isBeside_58 ?_
  refine lv_lload hx hb dX6_isBeside_59 (lv_at hl 2 rfl) ?_
  refine lv_lload hx hb dX6_isBeside_61 (lv_at hl 0 rfl) ?_
  refine lv_lmul hx hb dX6_isBeside_63 ?_
  refine lv_ladd hx hb dX6_isBeside_64 ?_
  obtain ⟨w5, ew5, h⟩ := gl_e h
  refine gw_nml ew5 ?_
  refine lv_lstore (lv' := [(11, .long w5), (9, .long w4), (7, .long w3), (5, .long w2), (3, .long w1), (0, .int p0), (1, .int p1), (2, .int p2)]) hx hb dX6_isBeside_65 hl (by decide) rfl (fun ls hl => ?_)
  refine lv_lload hx hb dX6_isBeside_67 (lv_at hl 2 rfl) ?_
  refine lv_lload hx hb dX6_isBeside_69 (lv_at hl 2 rfl) ?_
  refine lv_lmul hx hb dX6_isBeside_71 ?_
  refine lv_lload hx hb dX6_isBeside_72 (lv_at hl 1 rfl) ?_
  refine lv_lload hx hb dX6_isBeside_74 (lv_at hl 1 rfl) ?_
  refine lv_lmul hx hb dX6_isBeside_76 ?_
  refine lv_ladd hx hb dX6_isBeside_77 ?_
  obtain ⟨w6, ew6, h⟩ := gl_e h
  refine gw_nml ew6 ?_
  refine lv_lstore (lv' := [(13, .long w6), (11, .long w5), (9, .long w4), (7, .long w3), (5, .long w2), (3, .long w1), (0, .int p0), (1, .int p1), (2, .int p2)]) hx hb dX6_isBeside_78 hl (by decide) rfl (fun ls hl => ?_)
  refine lv_lload hx hb dX6_isBeside_80 (lv_at hl 1 rfl) ?_
  refine lv_lconst (v := (0 : Int64)) hx hb dX6_isBeside_82 (by decide) ?_
  refine W.lcmp hx hb dX6_isBeside_83 ?_
  refine lv_if_gt (tgt := 109) hx hb dX6_isBeside_84 (by decide) (fun c7 => ?_) (fun c7 => ?_)
  · have h := if_t c7 h
    refine lv_lload hx hb dX6_isBeside_109 (lv_at hl 1 rfl) ?_
    refine lv_lload hx hb dX6_isBeside_111 (lv_at hl 0 rfl) ?_
    refine W.lcmp hx hb dX6_isBeside_113 ?_
    refine lv_if_lt (tgt := 135) hx hb dX6_isBeside_114 (by decide) (fun c8 => ?_) (fun c8 => ?_)
    · have h := if_t c8 h
      refine lv_lload_n hx hb dX6_isBeside_135 rfl (lv_at hl 5 rfl) ?_
      refine lv_lload hx hb dX6_isBeside_136 (lv_at hl 2 rfl) ?_
      refine lv_lmul hx hb dX6_isBeside_138 ?_
      refine lv_lload hx hb dX6_isBeside_139 (lv_at hl 4 rfl) ?_
      refine lv_lload hx hb dX6_isBeside_141 (lv_at hl 3 rfl) ?_
      refine lv_lmul hx hb dX6_isBeside_143 ?_
      refine lv_lsub hx hb dX6_isBeside_144 ?_
      obtain ⟨w9, ew9, h⟩ := gl_e h
      refine gw_nml ew9 ?_
      refine lv_lstore (lv' := [(15, .long w9), (13, .long w6), (11, .long w5), (9, .long w4), (7, .long w3), (5, .long w2), (3, .long w1), (0, .int p0), (1, .int p1), (2, .int p2)]) hx hb dX6_isBeside_145 hl (by decide) rfl (fun ls hl => ?_)
      refine lv_lload hx hb dX6_isBeside_147 (lv_at hl 0 rfl) ?_
      refine lv_lload hx hb dX6_isBeside_149 (lv_at hl 0 rfl) ?_
      refine lv_lmul hx hb dX6_isBeside_151 ?_
      refine lv_ldc2 (v := (2500 : Int64)) hx hb hown (hts _ kt_752) dX6_isBeside_152 ?_
      refine lv_lload hx hb dX6_isBeside_155 (lv_at hl 1 rfl) ?_
      refine lv_lmul hx hb dX6_isBeside_157 ?_
      refine W.lcmp hx hb dX6_isBeside_158 ?_
      refine lv_if_gt (tgt := 166) hx hb dX6_isBeside_159 (by decide) (fun c10 => ?_) (fun c10 => ?_)
      · have h := if_t c10 h
        refine lv_iconst (v := (0 : Int32)) hx hb dX6_isBeside_166 (by decide) ?_
        exact gw_reti hx hb hr (nar_z (Or.inl rfl)) hlk V (Option.some.inj h) rfl dX6_isBeside_167
      · have h := if_f c10 h
        refine lv_iconst (v := (1 : Int32)) hx hb dX6_isBeside_162 (by decide) ?_
        refine lv_goto (tgt := 167) hx hb dX6_isBeside_163 (by decide) ?_
        exact gw_reti hx hb hr (nar_z (Or.inr rfl)) hlk V (Option.some.inj h) rfl dX6_isBeside_167
    · have h := if_f c8 h
      refine lv_iload_n hx hb dX6_isBeside_117 rfl (lv_at hl 6 rfl) ?_
      refine lv_iload_n hx hb dX6_isBeside_118 rfl (lv_at hl 8 rfl) ?_
      obtain ⟨v11, hv11, h⟩ := bi_e h
      refine gw_kl V (va_runS (As := [.int p0, .int p2]) (rest := []) ⟨hx, hb, hml, hown, hts⟩ (mX6_squareOf (D := D) (a := a) (cA := cA) (u := u) hv11) (cwS 2 hts gmdX6_104 rfl rfl rfl (by decide +kernel) ⟨Nat.le_of_ble_eq_true rfl, Nat.le_of_ble_eq_true rfl⟩) (gw_preS gY_ok C V [.int p0, .int p2]) rfl rfl hl.1 rfl (lv_room (Nat.le_of_ble_eq_true rfl)) dX6_isBeside_119 ⟨Nat.zero_le _, Nat.zero_le _⟩) (fun H locs V => ?_)
      refine lv_ldc2 (v := (2500 : Int64)) hx hb hown (hts _ kt_752) dX6_isBeside_122 ?_
      refine W.lcmp hx hb dX6_isBeside_125 ?_
      refine lv_if_gt (tgt := 133) hx hb dX6_isBeside_126 (by decide) (fun c12 => ?_) (fun c12 => ?_)
      · have h := if_t c12 h
        refine lv_iconst (v := (0 : Int32)) hx hb dX6_isBeside_133 (by decide) ?_
        exact gw_reti hx hb hr (nar_z (Or.inl rfl)) hlk V (Option.some.inj h) rfl dX6_isBeside_134
      · have h := if_f c12 h
        refine lv_iconst (v := (1 : Int32)) hx hb dX6_isBeside_129 (by decide) ?_
        refine lv_goto (tgt := 134) hx hb dX6_isBeside_130 (by decide) ?_
        exact gw_reti hx hb hr (nar_z (Or.inr rfl)) hlk V (Option.some.inj h) rfl dX6_isBeside_134
  · have h := if_f c7 h
    refine lv_lload_n hx hb dX6_isBeside_87 rfl (lv_at hl 5 rfl) ?_
    refine lv_lload_n hx hb dX6_isBeside_88 rfl (lv_at hl 5 rfl) ?_
    refine lv_lmul hx hb dX6_isBeside_89 ?_
    refine lv_lload hx hb dX6_isBeside_90 (lv_at hl 4 rfl) ?_
    refine lv_lload hx hb dX6_isBeside_92 (lv_at hl 4 rfl) ?_
    refine lv_lmul hx hb dX6_isBeside_94 ?_
    refine lv_ladd hx hb dX6_isBeside_95 ?_
    refine lv_ldc2 (v := (2500 : Int64)) hx hb hown (hts _ kt_752) dX6_isBeside_96 ?_
    refine W.lcmp hx hb dX6_isBeside_99 ?_
    refine lv_if_gt (tgt := 107) hx hb dX6_isBeside_100 (by decide) (fun c13 => ?_) (fun c13 => ?_)
    · have h := if_t c13 h
      refine lv_iconst (v := (0 : Int32)) hx hb dX6_isBeside_107 (by decide) ?_
      exact gw_reti hx hb hr (nar_z (Or.inl rfl)) hlk V (Option.some.inj h) rfl dX6_isBeside_108
    · have h := if_f c13 h
      refine lv_iconst (v := (1 : Int32)) hx hb dX6_isBeside_103 (by decide) ?_
      refine lv_goto (tgt := 108) hx hb dX6_isBeside_104 (by decide) ?_
      exact gw_reti hx hb hr (nar_z (Or.inr rfl)) hlk V (Option.some.inj h) rfl dX6_isBeside_108
set_option maxHeartbeats 4000000 in
theorem LX6_isOn_77 {p : Program} {l : Launch} {e : Env} {s : State} {m : MethodId} {below : List Frame} {meth : Method} {c : Code} {args : Array Value} {D : va_G} {a : Nat → Nat} {cA : ClassId} (B : gw_B p s m args meth c cX6_isOn 8 (some .boolean) RX6 gT) (C : gw_C D vwCl [(cA, .int)] (mdA a) gY s) {rv : Int32} {u : g_S} : ∀ (n : Nat) (x1 : Int32) (x2 : Int32) (x5 : Int32) (x6 : Int32) (x7 : Int32) (H : Heap) (locs : List Loc) (ls : Array Slot), gw_V D vwCl (mdA a) (mdW a cA) s u H locs → lv_has ls 8 [(0, .ref (a 0)), (1, .int x1), (2, .int x2), (5, .int x5), (6, .int x6), (7, .int x7)] → fm_isOn_77 u n x1 x2 x5 x6 x7 = some rv → W p l e rmX6_isOn s m args below meth c H locs 0 0 (gw_Ei D vwCl (mdA a) (mdW a cA) below args s rv u) (F0 m 77 ls []) := by
  obtain ⟨hx, hb, hml, hown, hts, hr, hlk⟩ := id B
  intro n
  induction n with
  | zero =>
    intro x1 x2 x5 x6 x7 H locs ls V hl h
    cases h
  | succ n ih =>
    intro x1 x2 x5 x6 x7 H locs ls V hl h
    rw [fm_isOn_77_s] at h
    refine lv_iload hx hb dX6_isOn_77 (lv_at hl 5 rfl) ?_
    refine lv_iload hx hb dX6_isOn_79 (lv_at hl 3 rfl) ?_
    refine lv_icmp_ge (tgt := 145) hx hb dX6_isOn_81 (by decide) (fun c1 => ?_) (fun c1 => ?_)
    · have h := if_t c1 h
      refine lv_iload hx hb dX6_isOn_145 (lv_at hl 4 rfl) ?_
      obtain ⟨hz, h⟩ := if_s h
      exact gw_reti hx hb hr (nar_z hz) hlk V (Option.some.inj h) rfl dX6_isOn_147
    · have h := if_f c1 h
      refine lv_iload hx hb dX6_isOn_84 (lv_at hl 4 rfl) ?_
      refine lv_if_ne (tgt := 132) hx hb dX6_isOn_86 (by decide) (fun c2 => ?_) (fun c2 => ?_)
      · have h := if_t c2 h
        refine lv_iconst (v := (1 : Int32)) hx hb dX6_isOn_132 (by decide) ?_
        refine lv_goto (tgt := 137) hx hb dX6_isOn_133 (by decide) ?_
        refine lv_istore (lv' := [(6, .int (1 : Int32)), (0, .ref (a 0)), (1, .int x1), (2, .int x2), (5, .int x5), (7, .int x7)]) hx hb dX6_isOn_137 hl (by decide) rfl (fun ls hl => ?_)
        refine lv_iinc (v := (x7 + (1 : Int32))) (lv' := [(7, .int (x7 + (1 : Int32))), (6, .int (1 : Int32)), (0, .ref (a 0)), (1, .int x1), (2, .int x2), (5, .int x5)]) hx hb dX6_isOn_139 hl (k := 5) rfl rfl (by decide) rfl (fun ls hl => ?_)
        refine lv_goto (tgt := 77) hx hb dX6_isOn_142 (by decide) ?_
        exact ih x1 x2 x5 (1 : Int32) (x7 + (1 : Int32)) _ _ _ V (lv_sub hl [2, 3, 4, 5, 1, 0] rfl) h
      · have h := if_nn c2 h
        refine lv_iload_n hx hb dX6_isOn_89 rfl (lv_at hl 2 rfl) ?_
        refine lv_aload_n hx hb dX6_isOn_90 rfl (lv_at hl 0 rfl) ?_
        refine va_get (C := RX6) (T := TX6) (N := 24) (ci := 5) hx hb hts igX6 hown C.1 V.1 0 rfl rfl 7 (by decide) (hts _ kt_610) (fun _ h => h) rfl dX6_isOn_91 ?_
        refine lv_bipush (v := (8 : Int32)) hx hb dX6_isOn_94 (by decide) ?_
        refine lv_aload_n hx hb dX6_isOn_96 rfl (lv_at hl 0 rfl) ?_
        refine va_get (C := RX6) (T := TX6) (N := 24) (ci := 5) hx hb hts igX6 hown C.1 V.1 0 rfl rfl 20 (by decide) (hts _ kt_623) (fun _ h => h) rfl dX6_isOn_97 ?_
        refine lv_iload_n hx hb dX6_isOn_100 rfl (lv_at hl 1 rfl) ?_
        obtain ⟨i3, h⟩ := ck_e h
        refine va_iald hx hb C.1 V.1 18 0 rfl rfl i3 dX6_isOn_101 ?_
        refine lv_imul hx hb dX6_isOn_102 ?_
        refine lv_iload hx hb dX6_isOn_103 (lv_at hl 5 rfl) ?_
        refine lv_iadd hx hb dX6_isOn_105 ?_
        obtain ⟨i4, h⟩ := ck_e h
        refine va_iald hx hb C.1 V.1 7 0 rfl rfl i4 dX6_isOn_106 ?_
        refine lv_aload_n hx hb dX6_isOn_107 rfl (lv_at hl 0 rfl) ?_
        refine va_get (C := RX6) (T := TX6) (N := 24) (ci := 5) hx hb hts igX6 hown C.1 V.1 0 rfl rfl 7 (by decide) (hts _ kt_610) (fun _ h => h) rfl dX6_isOn_108 ?_
        refine lv_bipush (v := (8 : Int32)) hx hb dX6_isOn_111 (by decide) ?_
        refine lv_aload_n hx hb dX6_isOn_113 rfl (lv_at hl 0 rfl) ?_
        refine va_get (C := RX6) (T := TX6) (N := 24) (ci := 5) hx hb hts igX6 hown C.1 V.1 0 rfl rfl 20 (by decide) (hts _ kt_623) (fun _ h => h) rfl dX6_isOn_114 ?_
        refine lv_iload_n hx hb dX6_isOn_117 rfl (lv_at hl 1 rfl) ?_
        obtain ⟨i5, h⟩ := ck_e h
        refine va_iald hx hb C.1 V.1 18 0 rfl rfl i5 dX6_isOn_118 ?_
        refine lv_imul hx hb dX6_isOn_119 ?_
        refine lv_iload hx hb dX6_isOn_120 (lv_at hl 5 rfl) ?_
        refine lv_iadd hx hb dX6_isOn_122 ?_
        refine lv_iconst (v := (1 : Int32)) hx hb dX6_isOn_123 (by decide) ?_
        refine lv_iadd hx hb dX6_isOn_124 ?_
        obtain ⟨i6, h⟩ := ck_e h
        refine va_iald hx hb C.1 V.1 7 0 rfl rfl i6 dX6_isOn_125 ?_
        obtain ⟨v7, hv7, h⟩ := bi_e h
        refine gw_ki V (va_runS (As := [.int x2, .int (u.2 6 (((8 : Int32) * (u.2 17 x1.toNatClampNeg)) + x7).toNatClampNeg), .int (u.2 6 ((((8 : Int32) * (u.2 17 x1.toNatClampNeg)) + x7) + (1 : Int32)).toNatClampNeg)]) (rest := []) ⟨hx, hb, hml, hown, hts⟩ (mX6_isBeside (D := D) (a := a) (cA := cA) (u := u) hv7) (cwS 3 hts gmdX6_115 rfl rfl rfl (by decide +kernel) ⟨Nat.le_of_ble_eq_true rfl, Nat.le_of_ble_eq_true rfl⟩) (gw_preS gY_ok C V [.int x2, .int (u.2 6 (((8 : Int32) * (u.2 17 x1.toNatClampNeg)) + x7).toNatClampNeg), .int (u.2 6 ((((8 : Int32) * (u.2 17 x1.toNatClampNeg)) + x7) + (1 : Int32)).toNatClampNeg)]) rfl rfl hl.1 rfl (lv_room (Nat.le_of_ble_eq_true rfl)) dX6_isOn_126 ⟨Nat.zero_le _, Nat.zero_le _⟩) (fun H locs V => ?_)
        refine lv_if_eq (tgt := 136) hx hb dX6_isOn_129 (by decide) (fun c8 => ?_) (fun c8 => ?_)
        · have h := if_t c8 h
          refine lv_iconst (v := (0 : Int32)) hx hb dX6_isOn_136 (by decide) ?_
          refine lv_istore (lv' := [(6, .int (0 : Int32)), (0, .ref (a 0)), (1, .int x1), (2, .int x2), (5, .int x5), (7, .int x7)]) hx hb dX6_isOn_137 hl (by decide) rfl (fun ls hl => ?_)
          refine lv_iinc (v := (x7 + (1 : Int32))) (lv' := [(7, .int (x7 + (1 : Int32))), (6, .int (0 : Int32)), (0, .ref (a 0)), (1, .int x1), (2, .int x2), (5, .int x5)]) hx hb dX6_isOn_139 hl (k := 5) rfl rfl (by decide) rfl (fun ls hl => ?_)
          refine lv_goto (tgt := 77) hx hb dX6_isOn_142 (by decide) ?_
          exact ih x1 x2 x5 (0 : Int32) (x7 + (1 : Int32)) _ _ _ V (lv_sub hl [2, 3, 4, 5, 1, 0] rfl) h
        · have h := if_f c8 h
          refine lv_iconst (v := (1 : Int32)) hx hb dX6_isOn_132 (by decide) ?_
          refine lv_goto (tgt := 137) hx hb dX6_isOn_133 (by decide) ?_
          refine lv_istore (lv' := [(6, .int (1 : Int32)), (0, .ref (a 0)), (1, .int x1), (2, .int x2), (5, .int x5), (7, .int x7)]) hx hb dX6_isOn_137 hl (by decide) rfl (fun ls hl => ?_)
          refine lv_iinc (v := (x7 + (1 : Int32))) (lv' := [(7, .int (x7 + (1 : Int32))), (6, .int (1 : Int32)), (0, .ref (a 0)), (1, .int x1), (2, .int x2), (5, .int x5)]) hx hb dX6_isOn_139 hl (k := 5) rfl rfl (by decide) rfl (fun ls hl => ?_)
          refine lv_goto (tgt := 77) hx hb dX6_isOn_142 (by decide) ?_
          exact ih x1 x2 x5 (1 : Int32) (x7 + (1 : Int32)) _ _ _ V (lv_sub hl [2, 3, 4, 5, 1, 0] rfl) h
set_option maxHeartbeats 4000000 in
theorem LX6_isOn_50 {p : Program} {l : Launch} {e : Env} {s : State} {m : MethodId} {below : List Frame} {meth : Method} {c : Code} {args : Array Value} {D : va_G} {a : Nat → Nat} {cA : ClassId} (B : gw_B p s m args meth c cX6_isOn 8 (some .boolean) RX6 gT) (C : gw_C D vwCl [(cA, .int)] (mdA a) gY s) {rv : Int32} {u : g_S} : ∀ (x1 : Int32) (x2 : Int32) (y0 : Int32) (H : Heap) (locs : List Loc) (ls : Array Slot), gw_V D vwCl (mdA a) (mdW a cA) s u H locs → lv_has ls 8 [(0, .ref (a 0)), (1, .int x1), (2, .int x2)] → fm_isOn_50 u x1 x2 y0 = some rv → W p l e rmX6_isOn s m args below meth c H locs 0 0 (gw_Ei D vwCl (mdA a) (mdW a cA) below args s rv u) (F0 m 50 ls [.int y0]) := by
  obtain ⟨hx, hb, hml, hown, hts, hr, hlk⟩ := id B
  intro x1 x2 y0 H locs ls V hl h
  unfold fm_isOn_50 at h
  refine lv_istore (lv' := [(4, .int y0), (0, .ref (a 0)), (1, .int x1), (2, .int x2)]) hx hb dX6_isOn_50 hl (by decide) rfl (fun ls hl => ?_)
  refine lv_aload_n hx hb dX6_isOn_52 rfl (lv_at hl 1 rfl) ?_
  refine va_get (C := RX6) (T := TX6) (N := 24) (ci := 5) hx hb hts igX6 hown C.1 V.1 0 rfl rfl 21 (by decide) (hts _ kt_624) (fun _ h => h) rfl dX6_isOn_53 ?_
  refine lv_iload_n hx hb dX6_isOn_56 rfl (lv_at hl 2 rfl) ?_
  obtain ⟨i1, h⟩ := ck_e h
  refine va_iald hx hb C.1 V.1 19 0 rfl rfl i1 dX6_isOn_57 ?_
  refine lv_aload_n hx hb dX6_isOn_58 rfl (lv_at hl 1 rfl) ?_
  refine va_get (C := RX6) (T := TX6) (N := 24) (ci := 5) hx hb hts igX6 hown C.1 V.1 0 rfl rfl 22 (by decide) (hts _ kt_625) (fun _ h => h) rfl dX6_isOn_59 ?_
  refine lv_iload_n hx hb dX6_isOn_62 rfl (lv_at hl 2 rfl) ?_
  obtain ⟨i2, h⟩ := ck_e h
  refine va_iald hx hb C.1 V.1 20 0 rfl rfl i2 dX6_isOn_63 ?_
  refine lv_iadd hx hb dX6_isOn_64 ?_
  refine lv_iload hx hb dX6_isOn_65 (lv_at hl 0 rfl) ?_
  refine lv_isub hx hb dX6_isOn_67 ?_
  obtain ⟨w3, ew3, h⟩ := gl_e h
  refine gw_nmi ew3 ?_
  refine lv_istore (lv' := [(5, .int w3), (4, .int y0), (0, .ref (a 0)), (1, .int x1), (2, .int x2)]) hx hb dX6_isOn_68 hl (by decide) rfl (fun ls hl => ?_)
  refine lv_iconst (v := (0 : Int32)) hx hb dX6_isOn_70 (by decide) ?_
  refine lv_istore (lv' := [(6, .int (0 : Int32)), (5, .int w3), (4, .int y0), (0, .ref (a 0)), (1, .int x1), (2, .int x2)]) hx hb dX6_isOn_71 hl (by decide) rfl (fun ls hl => ?_)
  refine lv_iload hx hb dX6_isOn_73 (lv_at hl 2 rfl) ?_
  refine lv_istore (lv' := [(7, .int y0), (6, .int (0 : Int32)), (5, .int w3), (4, .int y0), (0, .ref (a 0)), (1, .int x1), (2, .int x2)]) hx hb dX6_isOn_75 hl (by decide) rfl (fun ls hl => ?_)
  exact LX6_isOn_77 B C 200 x1 x2 w3 (0 : Int32) y0 _ _ _ V (lv_sub hl [4, 5, 6, 2, 1, 0] rfl) h
set_option maxHeartbeats 4000000 in
theorem mX6_isOn {l : Launch} {D : va_G} {a : Nat → Nat} {cA : ClassId} {sz : Nat} {u : g_S} {p1 : Int32} {p2 : Int32} {p3 : Int32} {rv : Int32} (h : fm_isOn u p1 p2 p3 = some rv) : gw_Mi D vwCl [(cA, .int)] (mdA a) gY (mdW a cA) l yX6_isOn wxX6_isOn rmX6_isOn sz u [.ref (a 0), .int p1, .int p2, .int p3] rv u := by
  refine gw_Mof (Qc := fun z => va_Qi (gw_Pi rv u) (gw_W D vwCl (mdW a cA)) (rg (mdA a) z)) (cc := cX6_isOn) (maxL := 8) (ret := (some .boolean)) (by decide) rfl ?_
  intro p e s m below meth c B C V
  obtain ⟨hx, hb, hml, hown, hts, hr, hlk⟩ := id B
  have hl := lv_entry ([.ref (a 0), .int p1, .int p2, .int p3]) (n := 8) (Nat.le_of_ble_eq_true rfl)
  rw [lg_entry_eq]
  generalize (lg_sl ([.ref (a 0), .int p1, .int p2, .int p3]) ++ List.replicate (8 - (lg_sl ([.ref (a 0), .int p1, .int p2, .int p3])).length) Slot.unset).toArray = ls at hl ⊢
  have hl : lv_has ls 8 [(0, .ref (a 0)), (1, .int p1), (2, .int p2), (3, .int p3)] := hl
  unfold fm_isOn at h
  refine lv_iload_n hx hb dX6_isOn_0 rfl (lv_at hl 2 rfl) ?_
  refine lv_if_ge (tgt := 20) hx hb dX6_isOn_1 (by decide) (fun c1 => ?_) (fun c1 => ?_)
  · have h := if_t c1 h
    refine lv_aload_n hx hb dX6_isOn_20 rfl (lv_at hl 0 rfl) ?_
    refine va_get (C := RX6) (T := TX6) (N := 24) (ci := 5) hx hb hts igX6 hown C.1 V.1 0 rfl rfl 21 (by decide) (hts _ kt_624) (fun _ h => h) rfl dX6_isOn_21 ?_
    refine lv_iload_n hx hb dX6_isOn_24 rfl (lv_at hl 1 rfl) ?_
    obtain ⟨i2, h⟩ := ck_e h
    refine va_iald hx hb C.1 V.1 19 0 rfl rfl i2 dX6_isOn_25 ?_
    refine lv_aload_n hx hb dX6_isOn_26 rfl (lv_at hl 0 rfl) ?_
    refine va_get (C := RX6) (T := TX6) (N := 24) (ci := 5) hx hb hts igX6 hown C.1 V.1 0 rfl rfl 22 (by decide) (hts _ kt_625) (fun _ h => h) rfl dX6_isOn_27 ?_
    refine lv_iload_n hx hb dX6_isOn_30 rfl (lv_at hl 1 rfl) ?_
    obtain ⟨i3, h⟩ := ck_e h
    refine va_iald hx hb C.1 V.1 20 0 rfl rfl i3 dX6_isOn_31 ?_
    refine lv_icmp_ge (tgt := 44) hx hb dX6_isOn_32 (by decide) (fun c4 => ?_) (fun c4 => ?_)
    · have h := if_t c4 h
      refine lv_aload_n hx hb dX6_isOn_44 rfl (lv_at hl 0 rfl) ?_
      refine va_get (C := RX6) (T := TX6) (N := 24) (ci := 5) hx hb hts igX6 hown C.1 V.1 0 rfl rfl 22 (by decide) (hts _ kt_625) (fun _ h => h) rfl dX6_isOn_45 ?_
      refine lv_iload_n hx hb dX6_isOn_48 rfl (lv_at hl 1 rfl) ?_
      obtain ⟨i5, h⟩ := ck_e h
      refine va_iald hx hb C.1 V.1 20 0 rfl rfl i5 dX6_isOn_49 ?_
      exact LX6_isOn_50 B C p1 p2 (u.2 19 p1.toNatClampNeg) _ _ _ V (lv_sub hl [0, 1, 2] rfl) h
    · have h := if_f c4 h
      refine lv_aload_n hx hb dX6_isOn_35 rfl (lv_at hl 0 rfl) ?_
      refine va_get (C := RX6) (T := TX6) (N := 24) (ci := 5) hx hb hts igX6 hown C.1 V.1 0 rfl rfl 21 (by decide) (hts _ kt_624) (fun _ h => h) rfl dX6_isOn_36 ?_
      refine lv_iload_n hx hb dX6_isOn_39 rfl (lv_at hl 1 rfl) ?_
      obtain ⟨i6, h⟩ := ck_e h
      refine va_iald hx hb C.1 V.1 19 0 rfl rfl i6 dX6_isOn_40 ?_
      refine lv_goto (tgt := 50) hx hb dX6_isOn_41 (by decide) ?_
      exact LX6_isOn_50 B C p1 p2 (u.2 18 p1.toNatClampNeg) _ _ _ V (lv_sub hl [0, 1, 2] rfl) h
  · have h := if_f c1 h
    refine lv_iload_n hx hb dX6_isOn_4 rfl (lv_at hl 3 rfl) ?_
    refine lv_aload_n hx hb dX6_isOn_5 rfl (lv_at hl 0 rfl) ?_
    refine va_get (C := RX6) (T := TX6) (N := 24) (ci := 5) hx hb hts igX6 hown C.1 V.1 0 rfl rfl 20 (by decide) (hts _ kt_623) (fun _ h => h) rfl dX6_isOn_6 ?_
    refine lv_iload_n hx hb dX6_isOn_9 rfl (lv_at hl 1 rfl) ?_
    obtain ⟨i7, h⟩ := ck_e h
    refine va_iald hx hb C.1 V.1 18 0 rfl rfl i7 dX6_isOn_10 ?_
    refine lv_icmp_ne (tgt := 18) hx hb dX6_isOn_11 (by decide) (fun c8 => ?_) (fun c8 => ?_)
    · have h := if_t c8 h
      refine lv_iconst (v := (0 : Int32)) hx hb dX6_isOn_18 (by decide) ?_
      exact gw_reti hx hb hr (nar_z (Or.inl rfl)) hlk V (Option.some.inj h) rfl dX6_isOn_19
    · have h := if_nn c8 h
      refine lv_iconst (v := (1 : Int32)) hx hb dX6_isOn_14 (by decide) ?_
      refine lv_goto (tgt := 19) hx hb dX6_isOn_15 (by decide) ?_
      exact gw_reti hx hb hr (nar_z (Or.inr rfl)) hlk V (Option.some.inj h) rfl dX6_isOn_19
