set_option maxHeartbeats 4000000 in
theorem mX6_reason {l : Launch} {D : va_G} {a : Nat → Nat} {cA : ClassId} {sz : Nat} {u : g_S} {p1 : Int32} {p2 : Int32} {p3 : Int32} {p4 : Int32} {p5 : Int32} {p6 : Int32} {rv : Int32 × g_S} (h : fm_reason u p1 p2 p3 p4 p5 p6 = some rv) : gw_Mi D vwCl [(cA, .int)] (mdA a) gY (mdW a cA) l yX6_reason wxX6_reason rmX6_reason sz u [.ref (a 0), .int p1, .int p2, .int p3, .int p4, .int p5, .int p6] rv.1 rv.2 := by
  refine gw_Mof (Qc := fun z => va_Qi (gw_Pi rv.1 rv.2) (gw_W D vwCl (mdW a cA)) (rg (mdA a) z)) (cc := cX6_reason) (maxL := 8) (ret := (some .int)) (by decide) rfl ?_
  intro p e s m below meth c B C V
  obtain ⟨hx, hb, hml, hown, hts, hr, hlk⟩ := id B
  have hl := lv_entry ([.ref (a 0), .int p1, .int p2, .int p3, .int p4, .int p5, .int p6]) (n := 8) (Nat.le_of_ble_eq_true rfl)
  rw [lg_entry_eq]
  generalize (lg_sl ([.ref (a 0), .int p1, .int p2, .int p3, .int p4, .int p5, .int p6]) ++ List.replicate (8 - (lg_sl ([.ref (a 0), .int p1, .int p2, .int p3, .int p4, .int p5, .int p6])).length) Slot.unset).toArray = ls at hl ⊢
  have hl : lv_has ls 8 [(0, .ref (a 0)), (1, .int p1), (2, .int p2), (3, .int p3), (4, .int p4), (5, .int p5), (6, .int p6)] := hl
  unfold fm_reason at h
  refine lv_aload_n hx hb dX6_reason_0 rfl (lv_at hl 0 rfl) ?_
  refine lv_iconst (v := (1 : Int32)) hx hb dX6_reason_1 (by decide) ?_
  obtain ⟨u1, eu1, h⟩ := gl_e h
  refine gw_put (u' := u1) (C := RX6) (T := TX6) (N := 24) (ci := 5) hx hb hts igX6 tyX6 tyX6_ok nmX6 hown (mdW_as a cA) C V 0 rfl rfl 23 (by decide) (hts _ kt_626) (fun _ h => h) rfl rfl (Nat.le_of_ble_eq_true rfl) (mdP_3 _ _ _ _ _ eu1) dX6_reason_2 (fun H locs V => ?_)
  refine lv_aload_n hx hb dX6_reason_5 rfl (lv_at hl 0 rfl) ?_
  refine lv_iload_n hx hb dX6_reason_6 rfl (lv_at hl 1 rfl) ?_
  refine lv_iload_n hx hb dX6_reason_7 rfl (lv_at hl 2 rfl) ?_
  refine lv_iload hx hb dX6_reason_8 (lv_at hl 6 rfl) ?_
  obtain ⟨v2, hv2, h⟩ := bi_e h
  refine gw_ki V (va_runV (As := [.int p1, .int p2, .int p6]) (rest := []) ⟨hx, hb, hml, hown, hts⟩ (mX6_again (D := D) (a := a) (cA := cA) (u := u1) hv2) (cwV 3 hts gmdX6_142 rfl rfl rfl (by decide +kernel) ⟨Nat.le_of_ble_eq_true rfl, Nat.le_of_ble_eq_true rfl⟩) (gw_preV (q0 := 0) (ci := 5) gY_ok C V [.int p1, .int p2, .int p6] rfl rfl) rfl rfl hl.1 rfl (lv_room (Nat.le_of_ble_eq_true rfl)) dX6_reason_10 ⟨Nat.zero_le _, Nat.zero_le _⟩) (fun H locs V => ?_)
  refine lv_istore (lv' := [(7, .int v2), (0, .ref (a 0)), (1, .int p1), (2, .int p2), (3, .int p3), (4, .int p4), (5, .int p5), (6, .int p6)]) hx hb dX6_reason_13 hl (by decide) rfl (fun ls hl => ?_)
  refine lv_iload hx hb dX6_reason_15 (lv_at hl 0 rfl) ?_
  refine lv_if_lt (tgt := 23) hx hb dX6_reason_17 (by decide) (fun c3 => ?_) (fun c3 => ?_)
  · have h := if_t c3 h
    refine lv_aload_n hx hb dX6_reason_23 rfl (lv_at hl 1 rfl) ?_
    refine lv_iconst (v := (2 : Int32)) hx hb dX6_reason_24 (by decide) ?_
    obtain ⟨u4, eu4, h⟩ := gl_e h
    refine gw_put (u' := u4) (C := RX6) (T := TX6) (N := 24) (ci := 5) hx hb hts igX6 tyX6 tyX6_ok nmX6 hown (mdW_as a cA) C V 0 rfl rfl 23 (by decide) (hts _ kt_626) (fun _ h => h) rfl rfl (Nat.le_of_ble_eq_true rfl) (mdP_3 _ _ _ _ _ eu4) dX6_reason_25 (fun H locs V => ?_)
    refine lv_aload_n hx hb dX6_reason_28 rfl (lv_at hl 1 rfl) ?_
    refine lv_iload_n hx hb dX6_reason_29 rfl (lv_at hl 3 rfl) ?_
    refine lv_iload_n hx hb dX6_reason_30 rfl (lv_at hl 4 rfl) ?_
    refine lv_iload hx hb dX6_reason_31 (lv_at hl 6 rfl) ?_
    obtain ⟨v5, hv5, h⟩ := bi_e h
    refine gw_ki V (va_runV (As := [.int p2, .int p3, .int p5]) (rest := []) ⟨hx, hb, hml, hown, hts⟩ (mX6_onStretch (D := D) (a := a) (cA := cA) (u := u4) hv5) (cwV 3 hts gmdX6_146 rfl rfl rfl (by decide +kernel) ⟨Nat.le_of_ble_eq_true rfl, Nat.le_of_ble_eq_true rfl⟩) (gw_preV (q0 := 0) (ci := 5) gY_ok C V [.int p2, .int p3, .int p5] rfl rfl) rfl rfl hl.1 rfl (lv_room (Nat.le_of_ble_eq_true rfl)) dX6_reason_33 ⟨Nat.zero_le _, Nat.zero_le _⟩) (fun H locs V => ?_)
    refine lv_istore (lv' := [(7, .int v5), (0, .ref (a 0)), (1, .int p1), (2, .int p2), (3, .int p3), (4, .int p4), (5, .int p5), (6, .int p6)]) hx hb dX6_reason_36 hl (by decide) rfl (fun ls hl => ?_)
    refine lv_iload hx hb dX6_reason_38 (lv_at hl 0 rfl) ?_
    refine lv_if_lt (tgt := 46) hx hb dX6_reason_40 (by decide) (fun c6 => ?_) (fun c6 => ?_)
    · have h := if_t c6 h
      refine lv_aload_n hx hb dX6_reason_46 rfl (lv_at hl 1 rfl) ?_
      refine lv_iconst (v := (3 : Int32)) hx hb dX6_reason_47 (by decide) ?_
      obtain ⟨u7, eu7, h⟩ := gl_e h
      refine gw_put (u' := u7) (C := RX6) (T := TX6) (N := 24) (ci := 5) hx hb hts igX6 tyX6 tyX6_ok nmX6 hown (mdW_as a cA) C V 0 rfl rfl 23 (by decide) (hts _ kt_626) (fun _ h => h) rfl rfl (Nat.le_of_ble_eq_true rfl) (mdP_3 _ _ _ _ _ eu7) dX6_reason_48 (fun H locs V => ?_)
      refine lv_aload_n hx hb dX6_reason_51 rfl (lv_at hl 1 rfl) ?_
      refine lv_iconst (v := (1 : Int32)) hx hb dX6_reason_52 (by decide) ?_
      refine lv_iload_n hx hb dX6_reason_53 rfl (lv_at hl 3 rfl) ?_
      refine lv_iload_n hx hb dX6_reason_54 rfl (lv_at hl 4 rfl) ?_
      refine lv_iload hx hb dX6_reason_55 (lv_at hl 5 rfl) ?_
      refine lv_iload hx hb dX6_reason_57 (lv_at hl 7 rfl) ?_
      obtain ⟨v8, hv8, h⟩ := bi_e h
      refine gw_ki V (va_runV (As := [.int (1 : Int32), .int p2, .int p3, .int p4, .int p6]) (rest := []) ⟨hx, hb, hml, hown, hts⟩ (mX6_agreeing (D := D) (a := a) (cA := cA) (u := u7) hv8) (cwV 5 hts gmdX6_149 rfl rfl rfl (by decide +kernel) ⟨Nat.le_of_ble_eq_true rfl, Nat.le_of_ble_eq_true rfl⟩) (gw_preV (q0 := 0) (ci := 5) gY_ok C V [.int (1 : Int32), .int p2, .int p3, .int p4, .int p6] rfl rfl) rfl rfl hl.1 rfl (lv_room (Nat.le_of_ble_eq_true rfl)) dX6_reason_59 ⟨Nat.zero_le _, Nat.zero_le _⟩) (fun H locs V => ?_)
      refine lv_istore (lv' := [(7, .int v8), (0, .ref (a 0)), (1, .int p1), (2, .int p2), (3, .int p3), (4, .int p4), (5, .int p5), (6, .int p6)]) hx hb dX6_reason_62 hl (by decide) rfl (fun ls hl => ?_)
      refine lv_iload hx hb dX6_reason_64 (lv_at hl 0 rfl) ?_
      refine lv_if_lt (tgt := 72) hx hb dX6_reason_66 (by decide) (fun c9 => ?_) (fun c9 => ?_)
      · have h := if_t c9 h
        refine lv_aload_n hx hb dX6_reason_72 rfl (lv_at hl 1 rfl) ?_
        refine lv_iconst (v := (4 : Int32)) hx hb dX6_reason_73 (by decide) ?_
        obtain ⟨u10, eu10, h⟩ := gl_e h
        refine gw_put (u' := u10) (C := RX6) (T := TX6) (N := 24) (ci := 5) hx hb hts igX6 tyX6 tyX6_ok nmX6 hown (mdW_as a cA) C V 0 rfl rfl 23 (by decide) (hts _ kt_626) (fun _ h => h) rfl rfl (Nat.le_of_ble_eq_true rfl) (mdP_3 _ _ _ _ _ eu10) dX6_reason_74 (fun H locs V => ?_)
        refine lv_aload_n hx hb dX6_reason_77 rfl (lv_at hl 1 rfl) ?_
        refine lv_iconst (v := (2 : Int32)) hx hb dX6_reason_78 (by decide) ?_
        refine lv_iload_n hx hb dX6_reason_79 rfl (lv_at hl 3 rfl) ?_
        refine lv_iload_n hx hb dX6_reason_80 rfl (lv_at hl 4 rfl) ?_
        refine lv_iload hx hb dX6_reason_81 (lv_at hl 5 rfl) ?_
        refine lv_iload hx hb dX6_reason_83 (lv_at hl 7 rfl) ?_
        obtain ⟨v11, hv11, h⟩ := bi_e h
        refine gw_ki V (va_runV (As := [.int (2 : Int32), .int p2, .int p3, .int p4, .int p6]) (rest := []) ⟨hx, hb, hml, hown, hts⟩ (mX6_agreeing (D := D) (a := a) (cA := cA) (u := u10) hv11) (cwV 5 hts gmdX6_149 rfl rfl rfl (by decide +kernel) ⟨Nat.le_of_ble_eq_true rfl, Nat.le_of_ble_eq_true rfl⟩) (gw_preV (q0 := 0) (ci := 5) gY_ok C V [.int (2 : Int32), .int p2, .int p3, .int p4, .int p6] rfl rfl) rfl rfl hl.1 rfl (lv_room (Nat.le_of_ble_eq_true rfl)) dX6_reason_85 ⟨Nat.zero_le _, Nat.zero_le _⟩) (fun H locs V => ?_)
        refine lv_istore (lv' := [(7, .int v11), (0, .ref (a 0)), (1, .int p1), (2, .int p2), (3, .int p3), (4, .int p4), (5, .int p5), (6, .int p6)]) hx hb dX6_reason_88 hl (by decide) rfl (fun ls hl => ?_)
        refine lv_aload_n hx hb dX6_reason_90 rfl (lv_at hl 1 rfl) ?_
        refine lv_iload hx hb dX6_reason_91 (lv_at hl 0 rfl) ?_
        refine lv_if_lt (tgt := 100) hx hb dX6_reason_93 (by decide) (fun c12 => ?_) (fun c12 => ?_)
        · have h := if_t c12 h
          refine lv_iconst (v := (0 : Int32)) hx hb dX6_reason_100 (by decide) ?_
          obtain ⟨u13, eu13, h⟩ := gl_e h
          refine gw_put (u' := u13) (C := RX6) (T := TX6) (N := 24) (ci := 5) hx hb hts igX6 tyX6 tyX6_ok nmX6 hown (mdW_as a cA) C V 0 rfl rfl 23 (by decide) (hts _ kt_626) (fun _ h => h) rfl rfl (Nat.le_of_ble_eq_true rfl) (mdP_3 _ _ _ _ _ eu13) dX6_reason_101 (fun H locs V => ?_)
          refine lv_iload hx hb dX6_reason_104 (lv_at hl 0 rfl) ?_
          exact gw_reti hx hb hr rfl hlk V (in2a h) (in2b h) dX6_reason_106
        · have h := if_f c12 h
          refine lv_iconst (v := (4 : Int32)) hx hb dX6_reason_96 (by decide) ?_
          refine lv_goto (tgt := 101) hx hb dX6_reason_97 (by decide) ?_
          obtain ⟨u14, eu14, h⟩ := gl_e h
          refine gw_put (u' := u14) (C := RX6) (T := TX6) (N := 24) (ci := 5) hx hb hts igX6 tyX6 tyX6_ok nmX6 hown (mdW_as a cA) C V 0 rfl rfl 23 (by decide) (hts _ kt_626) (fun _ h => h) rfl rfl (Nat.le_of_ble_eq_true rfl) (mdP_3 _ _ _ _ _ eu14) dX6_reason_101 (fun H locs V => ?_)
          refine lv_iload hx hb dX6_reason_104 (lv_at hl 0 rfl) ?_
          exact gw_reti hx hb hr rfl hlk V (in2a h) (in2b h) dX6_reason_106
      · have h := if_f c9 h
        refine lv_iload hx hb dX6_reason_69 (lv_at hl 0 rfl) ?_
        exact gw_reti hx hb hr rfl hlk V (in2a h) (in2b h) dX6_reason_71
    · have h := if_f c6 h
      refine lv_iload hx hb dX6_reason_43 (lv_at hl 0 rfl) ?_
      exact gw_reti hx hb hr rfl hlk V (in2a h) (in2b h) dX6_reason_45
  · have h := if_f c3 h
    refine lv_iload hx hb dX6_reason_20 (lv_at hl 0 rfl) ?_
    exact gw_reti hx hb hr rfl hlk V (in2a h) (in2b h) dX6_reason_22
set_option maxHeartbeats 4000000 in
theorem mX6_isRange {l : Launch} {D : va_G} {a : Nat → Nat} {cA : ClassId} {sz : Nat} {u : g_S} {p1 : Int32} {p2 : Int32} {p3 : Int32} {rv : Int32} (h : fm_isRange u p1 p2 p3 = some rv) : gw_Mi D vwCl [(cA, .int)] (mdA a) gY (mdW a cA) l yX6_isRange wxX6_isRange rmX6_isRange sz u [.ref (a 0), .int p1, .int p2, .int p3] rv u := by
  refine gw_Mof (Qc := fun z => va_Qi (gw_Pi rv u) (gw_W D vwCl (mdW a cA)) (rg (mdA a) z)) (cc := cX6_isRange) (maxL := 4) (ret := (some .boolean)) (by decide) rfl ?_
  intro p e s m below meth c B C V
  obtain ⟨hx, hb, hml, hown, hts, hr, hlk⟩ := id B
  have hl := lv_entry ([.ref (a 0), .int p1, .int p2, .int p3]) (n := 4) (Nat.le_of_ble_eq_true rfl)
  rw [lg_entry_eq]
  generalize (lg_sl ([.ref (a 0), .int p1, .int p2, .int p3]) ++ List.replicate (4 - (lg_sl ([.ref (a 0), .int p1, .int p2, .int p3])).length) Slot.unset).toArray = ls at hl ⊢
  have hl : lv_has ls 4 [(0, .ref (a 0)), (1, .int p1), (2, .int p2), (3, .int p3)] := hl
  unfold fm_isRange at h
  refine lv_iload_n hx hb dX6_isRange_0 rfl (lv_at hl 1 rfl) ?_
  refine lv_iconst (v := (0 : Int32)) hx hb dX6_isRange_1 (by decide) ?_
  refine lv_sipush (v := (999 : Int32)) hx hb dX6_isRange_2 (by decide) ?_
  obtain ⟨v1, hv1, h⟩ := bi_e h
  refine gw_ki V (va_runS (As := [.int p1, .int (0 : Int32), .int (999 : Int32)]) (rest := []) ⟨hx, hb, hml, hown, hts⟩ (mX6_in (D := D) (a := a) (cA := cA) (u := u) hv1) (cwS 3 hts gmdX6_74 rfl rfl rfl (by decide +kernel) ⟨Nat.le_of_ble_eq_true rfl, Nat.le_of_ble_eq_true rfl⟩) (gw_preS gY_ok C V [.int p1, .int (0 : Int32), .int (999 : Int32)]) rfl rfl hl.1 rfl (lv_room (Nat.le_of_ble_eq_true rfl)) dX6_isRange_5 ⟨Nat.zero_le _, Nat.zero_le _⟩) (fun H locs V => ?_)
  refine lv_if_eq (tgt := 51) hx hb dX6_isRange_8 (by decide) (fun c2 => ?_) (fun c2 => ?_)
  · have h := if_t c2 h
    refine lv_iconst (v := (0 : Int32)) hx hb dX6_isRange_51 (by decide) ?_
    exact gw_reti hx hb hr (nar_z (Or.inl rfl)) hlk V (Option.some.inj h) rfl dX6_isRange_52
  · have h := if_f c2 h
    refine lv_iload_n hx hb dX6_isRange_11 rfl (lv_at hl 2 rfl) ?_
    refine lv_iconst (v := (-1 : Int32)) hx hb dX6_isRange_12 (by decide) ?_
    refine lv_ldc (v := (99999999 : Int32)) hx hb hown (hts _ kt_709) dX6_isRange_13 ?_
    obtain ⟨v3, hv3, h⟩ := bi_e h
    refine gw_ki V (va_runS (As := [.int p2, .int (-1 : Int32), .int (99999999 : Int32)]) (rest := []) ⟨hx, hb, hml, hown, hts⟩ (mX6_in (D := D) (a := a) (cA := cA) (u := u) hv3) (cwS 3 hts gmdX6_74 rfl rfl rfl (by decide +kernel) ⟨Nat.le_of_ble_eq_true rfl, Nat.le_of_ble_eq_true rfl⟩) (gw_preS gY_ok C V [.int p2, .int (-1 : Int32), .int (99999999 : Int32)]) rfl rfl hl.1 rfl (lv_room (Nat.le_of_ble_eq_true rfl)) dX6_isRange_15 ⟨Nat.zero_le _, Nat.zero_le _⟩) (fun H locs V => ?_)
    refine lv_if_eq (tgt := 51) hx hb dX6_isRange_18 (by decide) (fun c4 => ?_) (fun c4 => ?_)
    · have h := if_t c4 h
      refine lv_iconst (v := (0 : Int32)) hx hb dX6_isRange_51 (by decide) ?_
      exact gw_reti hx hb hr (nar_z (Or.inl rfl)) hlk V (Option.some.inj h) rfl dX6_isRange_52
    · have h := if_f c4 h
      refine lv_iload_n hx hb dX6_isRange_21 rfl (lv_at hl 3 rfl) ?_
      refine lv_aload_n hx hb dX6_isRange_22 rfl (lv_at hl 0 rfl) ?_
      refine va_get (C := RX6) (T := TX6) (N := 24) (ci := 5) hx hb hts igX6 hown C.1 V.1 0 rfl rfl 8 (by decide) (hts _ kt_611) (fun _ h => h) rfl dX6_isRange_23 ?_
      refine lv_if_ne (tgt := 33) hx hb dX6_isRange_26 (by decide) (fun c5 => ?_) (fun c5 => ?_)
      · have h := if_t c5 h
        refine lv_aload_n hx hb dX6_isRange_33 rfl (lv_at hl 0 rfl) ?_
        refine va_get (C := RX6) (T := TX6) (N := 24) (ci := 5) hx hb hts igX6 hown C.1 V.1 0 rfl rfl 14 (by decide) (hts _ kt_617) (fun _ h => h) rfl dX6_isRange_34 ?_
        refine lv_aload_n hx hb dX6_isRange_37 rfl (lv_at hl 0 rfl) ?_
        refine va_get (C := RX6) (T := TX6) (N := 24) (ci := 5) hx hb hts igX6 hown C.1 V.1 0 rfl rfl 8 (by decide) (hts _ kt_611) (fun _ h => h) rfl dX6_isRange_38 ?_
        refine lv_iconst (v := (1 : Int32)) hx hb dX6_isRange_41 (by decide) ?_
        refine lv_isub hx hb dX6_isRange_42 ?_
        obtain ⟨i6, h⟩ := ck_e h
        refine va_iald hx hb C.1 V.1 12 0 rfl rfl i6 dX6_isRange_43 ?_
        refine lv_icmp_lt (tgt := 51) hx hb dX6_isRange_44 (by decide) (fun c7 => ?_) (fun c7 => ?_)
        · have h := if_t c7 h
          refine lv_iconst (v := (0 : Int32)) hx hb dX6_isRange_51 (by decide) ?_
          exact gw_reti hx hb hr (nar_z (Or.inl rfl)) hlk V (Option.some.inj h) rfl dX6_isRange_52
        · have h := if_f c7 h
          refine lv_iconst (v := (1 : Int32)) hx hb dX6_isRange_47 (by decide) ?_
          refine lv_goto (tgt := 52) hx hb dX6_isRange_48 (by decide) ?_
          exact gw_reti hx hb hr (nar_z (Or.inr rfl)) hlk V (Option.some.inj h) rfl dX6_isRange_52
      · have h := if_nn c5 h
        refine lv_iconst (v := (0 : Int32)) hx hb dX6_isRange_29 (by decide) ?_
        refine lv_goto (tgt := 44) hx hb dX6_isRange_30 (by decide) ?_
        refine lv_icmp_lt (tgt := 51) hx hb dX6_isRange_44 (by decide) (fun c8 => ?_) (fun c8 => ?_)
        · have h := if_t c8 h
          refine lv_iconst (v := (0 : Int32)) hx hb dX6_isRange_51 (by decide) ?_
          exact gw_reti hx hb hr (nar_z (Or.inl rfl)) hlk V (Option.some.inj h) rfl dX6_isRange_52
        · have h := if_f c8 h
          refine lv_iconst (v := (1 : Int32)) hx hb dX6_isRange_47 (by decide) ?_
          refine lv_goto (tgt := 52) hx hb dX6_isRange_48 (by decide) ?_
          exact gw_reti hx hb hr (nar_z (Or.inr rfl)) hlk V (Option.some.inj h) rfl dX6_isRange_52
set_option maxHeartbeats 4000000 in
theorem mX6_isKnown {l : Launch} {D : va_G} {a : Nat → Nat} {cA : ClassId} {sz : Nat} {u : g_S} {p0 : Int32} {p1 : Int32} {rv : Int32} (h : fm_isKnown p0 p1 = some rv) : gw_Mi D vwCl [(cA, .int)] (mdA a) gY (mdW a cA) l yX6_isKnown wxX6_isKnown rmX6_isKnown sz u [.int p0, .int p1] rv u := by
  refine gw_Mof (Qc := fun z => va_Qi (gw_Pi rv u) (gw_W D vwCl (mdW a cA)) (rg (mdA a) z)) (cc := cX6_isKnown) (maxL := 2) (ret := (some .boolean)) (by decide) rfl ?_
  intro p e s m below meth c B C V
  obtain ⟨hx, hb, hml, hown, hts, hr, hlk⟩ := id B
  have hl := lv_entry ([.int p0, .int p1]) (n := 2) (Nat.le_of_ble_eq_true rfl)
  rw [lg_entry_eq]
  generalize (lg_sl ([.int p0, .int p1]) ++ List.replicate (2 - (lg_sl ([.int p0, .int p1])).length) Slot.unset).toArray = ls at hl ⊢
  have hl : lv_has ls 2 [(0, .int p0), (1, .int p1)] := hl
  unfold fm_isKnown at h
  refine lv_iload_n hx hb dX6_isKnown_0 rfl (lv_at hl 0 rfl) ?_
  obtain ⟨v1, hv1, h⟩ := bi_e h
  refine gw_ki V (va_runS (As := [.int p0]) (rest := []) ⟨hx, hb, hml, hown, hts⟩ (mX6_isKind (D := D) (a := a) (cA := cA) (u := u) hv1) (cwS 1 hts gmdX6_86 rfl rfl rfl (by decide +kernel) ⟨Nat.le_of_ble_eq_true rfl, Nat.le_of_ble_eq_true rfl⟩) (gw_preS gY_ok C V [.int p0]) rfl rfl hl.1 rfl (lv_room (Nat.le_of_ble_eq_true rfl)) dX6_isKnown_1 ⟨Nat.zero_le _, Nat.zero_le _⟩) (fun H locs V => ?_)
  refine lv_if_eq (tgt := 21) hx hb dX6_isKnown_4 (by decide) (fun c2 => ?_) (fun c2 => ?_)
  · have h := if_t c2 h
    refine lv_iconst (v := (0 : Int32)) hx hb dX6_isKnown_21 (by decide) ?_
    exact gw_reti hx hb hr (nar_z (Or.inl rfl)) hlk V (Option.some.inj h) rfl dX6_isKnown_22
  · have h := if_f c2 h
    refine lv_iload_n hx hb dX6_isKnown_7 rfl (lv_at hl 1 rfl) ?_
    refine lv_iconst (v := (-1 : Int32)) hx hb dX6_isKnown_8 (by decide) ?_
    refine lv_bipush (v := (7 : Int32)) hx hb dX6_isKnown_9 (by decide) ?_
    obtain ⟨v3, hv3, h⟩ := bi_e h
    refine gw_ki V (va_runS (As := [.int p1, .int (-1 : Int32), .int (7 : Int32)]) (rest := []) ⟨hx, hb, hml, hown, hts⟩ (mX6_in (D := D) (a := a) (cA := cA) (u := u) hv3) (cwS 3 hts gmdX6_74 rfl rfl rfl (by decide +kernel) ⟨Nat.le_of_ble_eq_true rfl, Nat.le_of_ble_eq_true rfl⟩) (gw_preS gY_ok C V [.int p1, .int (-1 : Int32), .int (7 : Int32)]) rfl rfl hl.1 rfl (lv_room (Nat.le_of_ble_eq_true rfl)) dX6_isKnown_11 ⟨Nat.zero_le _, Nat.zero_le _⟩) (fun H locs V => ?_)
    refine lv_if_eq (tgt := 21) hx hb dX6_isKnown_14 (by decide) (fun c4 => ?_) (fun c4 => ?_)
    · have h := if_t c4 h
      refine lv_iconst (v := (0 : Int32)) hx hb dX6_isKnown_21 (by decide) ?_
      exact gw_reti hx hb hr (nar_z (Or.inl rfl)) hlk V (Option.some.inj h) rfl dX6_isKnown_22
    · have h := if_f c4 h
      refine lv_iconst (v := (1 : Int32)) hx hb dX6_isKnown_17 (by decide) ?_
      refine lv_goto (tgt := 22) hx hb dX6_isKnown_18 (by decide) ?_
      exact gw_reti hx hb hr (nar_z (Or.inr rfl)) hlk V (Option.some.inj h) rfl dX6_isKnown_22
set_option maxHeartbeats 4000000 in
theorem mX6_newEvent {l : Launch} {D : va_G} {a : Nat → Nat} {cA : ClassId} {sz : Nat} {u : g_S}  {rv : Int32 × g_S} (h : fm_newEvent u = some rv) : gw_Mi D vwCl [(cA, .int)] (mdA a) gY (mdW a cA) l yX6_newEvent wxX6_newEvent rmX6_newEvent sz u [.ref (a 0)] rv.1 rv.2 := by
  refine gw_Mof (Qc := fun z => va_Qi (gw_Pi rv.1 rv.2) (gw_W D vwCl (mdW a cA)) (rg (mdA a) z)) (cc := cX6_newEvent) (maxL := 1) (ret := (some .int)) (by decide) rfl ?_
  intro p e s m below meth c B C V
  obtain ⟨hx, hb, hml, hown, hts, hr, hlk⟩ := id B
  have hl := lv_entry ([.ref (a 0)]) (n := 1) (Nat.le_of_ble_eq_true rfl)
  rw [lg_entry_eq]
  generalize (lg_sl ([.ref (a 0)]) ++ List.replicate (1 - (lg_sl ([.ref (a 0)])).length) Slot.unset).toArray = ls at hl ⊢
  have hl : lv_has ls 1 [(0, .ref (a 0))] := hl
  unfold fm_newEvent at h
  refine lv_aload_n hx hb dX6_newEvent_0 rfl (lv_at hl 0 rfl) ?_
  refine va_get (C := RX6) (T := TX6) (N := 24) (ci := 5) hx hb hts igX6 hown C.1 V.1 0 rfl rfl 19 (by decide) (hts _ kt_622) (fun _ h => h) rfl dX6_newEvent_1 ?_
  refine lv_aload_n hx hb dX6_newEvent_4 rfl (lv_at hl 0 rfl) ?_
  refine va_get (C := RX6) (T := TX6) (N := 24) (ci := 5) hx hb hts igX6 hown C.1 V.1 0 rfl rfl 9 (by decide) (hts _ kt_612) (fun _ h => h) rfl dX6_newEvent_5 ?_
  refine lv_iconst (v := (0 : Int32)) hx hb dX6_newEvent_8 (by decide) ?_
  obtain ⟨i1, h⟩ := ck_e h
  obtain ⟨u2, eu2, h⟩ := gl_e h
  refine gw_iast (u' := u2) hx hb (mdW_as a cA) C V 17 0 rfl rfl i1 (mdS_16 _ _ _ _ _ _ eu2) dX6_newEvent_9 (fun H locs V => ?_)
  refine lv_aload_n hx hb dX6_newEvent_10 rfl (lv_at hl 0 rfl) ?_
  refine va_get (C := RX6) (T := TX6) (N := 24) (ci := 5) hx hb hts igX6 hown C.1 V.1 0 rfl rfl 20 (by decide) (hts _ kt_623) (fun _ h => h) rfl dX6_newEvent_11 ?_
  refine lv_aload_n hx hb dX6_newEvent_14 rfl (lv_at hl 0 rfl) ?_
  refine va_get (C := RX6) (T := TX6) (N := 24) (ci := 5) hx hb hts igX6 hown C.1 V.1 0 rfl rfl 9 (by decide) (hts _ kt_612) (fun _ h => h) rfl dX6_newEvent_15 ?_
  refine lv_iconst (v := (-1 : Int32)) hx hb dX6_newEvent_18 (by decide) ?_
  obtain ⟨i3, h⟩ := ck_e h
  obtain ⟨u4, eu4, h⟩ := gl_e h
  refine gw_iast (u' := u4) hx hb (mdW_as a cA) C V 18 0 rfl rfl i3 (mdS_17 _ _ _ _ _ _ eu4) dX6_newEvent_19 (fun H locs V => ?_)
  refine lv_aload_n hx hb dX6_newEvent_20 rfl (lv_at hl 0 rfl) ?_
  refine lv_dup hx hb dX6_newEvent_21 rfl ?_
  refine va_get (C := RX6) (T := TX6) (N := 24) (ci := 5) hx hb hts igX6 hown C.1 V.1 0 rfl rfl 9 (by decide) (hts _ kt_612) (fun _ h => h) rfl dX6_newEvent_22 ?_
  refine lv_iconst (v := (1 : Int32)) hx hb dX6_newEvent_25 (by decide) ?_
  refine lv_iadd hx hb dX6_newEvent_26 ?_
  obtain ⟨u5, eu5, h⟩ := gl_e h
  refine gw_put (u' := u5) (C := RX6) (T := TX6) (N := 24) (ci := 5) hx hb hts igX6 tyX6 tyX6_ok nmX6 hown (mdW_as a cA) C V 0 rfl rfl 9 (by decide) (hts _ kt_612) (fun _ h => h) rfl rfl (Nat.le_of_ble_eq_true rfl) (mdP_2 _ _ _ _ _ eu5) dX6_newEvent_27 (fun H locs V => ?_)
  refine lv_aload_n hx hb dX6_newEvent_30 rfl (lv_at hl 0 rfl) ?_
  refine va_get (C := RX6) (T := TX6) (N := 24) (ci := 5) hx hb hts igX6 hown C.1 V.1 0 rfl rfl 9 (by decide) (hts _ kt_612) (fun _ h => h) rfl dX6_newEvent_31 ?_
  refine lv_iconst (v := (1 : Int32)) hx hb dX6_newEvent_34 (by decide) ?_
  refine lv_isub hx hb dX6_newEvent_35 ?_
  exact gw_reti hx hb hr rfl hlk V (in2a h) (in2b h) dX6_newEvent_36
set_option maxHeartbeats 4000000 in
theorem LX6_call_199 {p : Program} {l : Launch} {e : Env} {s : State} {m : MethodId} {below : List Frame} {meth : Method} {c : Code} {args : Array Value} {D : va_G} {a : Nat → Nat} {cA : ClassId} (B : gw_B p s m args meth c cX6_call 9 (some .int) RX6 gT) (C : gw_C D vwCl [(cA, .int)] (mdA a) gY s) {rv : Int32 × g_S} : ∀ (x8 : Int32) (y1 : Int32) (y2 : Int32) (u : g_S) (H : Heap) (locs : List Loc) (ls : Array Slot), gw_V D vwCl (mdA a) (mdW a cA) s u H locs → lv_has ls 9 [(0, .ref (a 0)), (8, .int x8)] → fm_call_199 u x8 y1 y2 = some rv → W p l e rmX6_call s m args below meth c H locs 0 0 (gw_Ei D vwCl (mdA a) (mdW a cA) below args s rv.1 rv.2) (F0 m 199 ls [.int y2, .int y1, .ref (a 13)]) := by
  obtain ⟨hx, hb, hml, hown, hts, hr, hlk⟩ := id B
  intro x8 y1 y2 u H locs ls V hl h
  unfold fm_call_199 at h
  obtain ⟨i1, h⟩ := ck_e h
  obtain ⟨u2, eu2, h⟩ := gl_e h
  refine gw_iast (u' := u2) hx hb (mdW_as a cA) C V 13 0 rfl rfl i1 (mdS_12 _ _ _ _ _ _ eu2) dX6_call_199 (fun H locs V => ?_)
  refine lv_aload_n hx hb dX6_call_200 rfl (lv_at hl 0 rfl) ?_
  refine lv_dup hx hb dX6_call_201 rfl ?_
  refine va_get (C := RX6) (T := TX6) (N := 24) (ci := 5) hx hb hts igX6 hown C.1 V.1 0 rfl rfl 8 (by decide) (hts _ kt_611) (fun _ h => h) rfl dX6_call_202 ?_
  refine lv_iconst (v := (1 : Int32)) hx hb dX6_call_205 (by decide) ?_
  refine lv_iadd hx hb dX6_call_206 ?_
  obtain ⟨u3, eu3, h⟩ := gl_e h
  refine gw_put (u' := u3) (C := RX6) (T := TX6) (N := 24) (ci := 5) hx hb hts igX6 tyX6 tyX6_ok nmX6 hown (mdW_as a cA) C V 0 rfl rfl 8 (by decide) (hts _ kt_611) (fun _ h => h) rfl rfl (Nat.le_of_ble_eq_true rfl) (mdP_1 _ _ _ _ _ eu3) dX6_call_207 (fun H locs V => ?_)
  refine lv_iload hx hb dX6_call_210 (lv_at hl 1 rfl) ?_
  exact gw_reti hx hb hr rfl hlk V (in2a h) (in2b h) dX6_call_212
set_option maxHeartbeats 4000000 in
theorem LX6_call_90 {p : Program} {l : Launch} {e : Env} {s : State} {m : MethodId} {below : List Frame} {meth : Method} {c : Code} {args : Array Value} {D : va_G} {a : Nat → Nat} {cA : ClassId} (B : gw_B p s m args meth c cX6_call 9 (some .int) RX6 gT) (C : gw_C D vwCl [(cA, .int)] (mdA a) gY s) {rv : Int32 × g_S} : ∀ (x1 : Int32) (x2 : Int32) (x3 : Int32) (x4 : Int32) (x6 : Int32) (x7 : Int32) (y1 : Int32) (y2 : Int32) (y3 : Int32) (u : g_S) (H : Heap) (locs : List Loc) (ls : Array Slot), gw_V D vwCl (mdA a) (mdW a cA) s u H locs → lv_has ls 9 [(0, .ref (a 0)), (1, .int x1), (2, .int x2), (3, .int x3), (4, .int x4), (6, .int x6), (7, .int x7)] → fm_call_90 u x1 x2 x3 x4 x6 x7 y1 y2 y3 = some rv → W p l e rmX6_call s m args below meth c H locs 0 0 (gw_Ei D vwCl (mdA a) (mdW a cA) below args s rv.1 rv.2) (F0 m 90 ls [.int y3, .int y2, .int y1, .ref (a 0)]) := by
  obtain ⟨hx, hb, hml, hown, hts, hr, hlk⟩ := id B
  intro x1 x2 x3 x4 x6 x7 y1 y2 y3 u H locs ls V hl h
  unfold fm_call_90 at h
  obtain ⟨v1, hv1, h⟩ := bi_e h
  refine gw_ki V (va_runV (As := [.int y1, .int y2, .int y3]) (rest := []) ⟨hx, hb, hml, hown, hts⟩ (mX6_throwing (D := D) (a := a) (cA := cA) (u := u) hv1) (cwV 3 hts gmdX6_90 rfl rfl rfl (by decide +kernel) ⟨Nat.le_of_ble_eq_true rfl, Nat.le_of_ble_eq_true rfl⟩) (gw_preV (q0 := 0) (ci := 5) gY_ok C V [.int y1, .int y2, .int y3] rfl rfl) rfl rfl hl.1 rfl (lv_room (Nat.le_of_ble_eq_true rfl)) dX6_call_90 ⟨Nat.zero_le _, Nat.zero_le _⟩) (fun H locs V => ?_)
  refine lv_if_eq (tgt := 98) hx hb dX6_call_93 (by decide) (fun c2 => ?_) (fun c2 => ?_)
  · have h := if_t c2 h
    refine lv_aload_n hx hb dX6_call_98 rfl (lv_at hl 0 rfl) ?_
    refine va_get (C := RX6) (T := TX6) (N := 24) (ci := 5) hx hb hts igX6 hown C.1 V.1 0 rfl rfl 8 (by decide) (hts _ kt_611) (fun _ h => h) rfl dX6_call_99 ?_
    obtain ⟨w3, ew3, h⟩ := gl_e h
    refine gw_nmi ew3 ?_
    refine lv_istore (lv' := [(8, .int w3), (0, .ref (a 0)), (1, .int x1), (2, .int x2), (3, .int x3), (4, .int x4), (6, .int x6), (7, .int x7)]) hx hb dX6_call_102 hl (by decide) rfl (fun ls hl => ?_)
    refine lv_aload_n hx hb dX6_call_104 rfl (lv_at hl 1 rfl) ?_
    refine va_get (C := RX6) (T := TX6) (N := 24) (ci := 5) hx hb hts igX6 hown C.1 V.1 0 rfl rfl 10 (by decide) (hts _ kt_613) (fun _ h => h) rfl dX6_call_105 ?_
    refine lv_iload hx hb dX6_call_108 (lv_at hl 0 rfl) ?_
    refine lv_iload_n hx hb dX6_call_110 rfl (lv_at hl 2 rfl) ?_
    obtain ⟨i4, h⟩ := ck_e h
    obtain ⟨u5, eu5, h⟩ := gl_e h
    refine gw_iast (u' := u5) hx hb (mdW_as a cA) C V 8 0 rfl rfl i4 (mdS_7 _ _ _ _ _ _ eu5) dX6_call_111 (fun H locs V => ?_)
    refine lv_aload_n hx hb dX6_call_112 rfl (lv_at hl 1 rfl) ?_
    refine va_get (C := RX6) (T := TX6) (N := 24) (ci := 5) hx hb hts igX6 hown C.1 V.1 0 rfl rfl 11 (by decide) (hts _ kt_614) (fun _ h => h) rfl dX6_call_113 ?_
    refine lv_iload hx hb dX6_call_116 (lv_at hl 0 rfl) ?_
    refine lv_iload_n hx hb dX6_call_118 rfl (lv_at hl 3 rfl) ?_
    obtain ⟨i6, h⟩ := ck_e h
    obtain ⟨u7, eu7, h⟩ := gl_e h
    refine gw_iast (u' := u7) hx hb (mdW_as a cA) C V 9 0 rfl rfl i6 (mdS_8 _ _ _ _ _ _ eu7) dX6_call_119 (fun H locs V => ?_)
    refine lv_aload_n hx hb dX6_call_120 rfl (lv_at hl 1 rfl) ?_
    refine va_get (C := RX6) (T := TX6) (N := 24) (ci := 5) hx hb hts igX6 hown C.1 V.1 0 rfl rfl 12 (by decide) (hts _ kt_615) (fun _ h => h) rfl dX6_call_121 ?_
    refine lv_iload hx hb dX6_call_124 (lv_at hl 0 rfl) ?_
    refine lv_iload_n hx hb dX6_call_126 rfl (lv_at hl 4 rfl) ?_
    obtain ⟨i8, h⟩ := ck_e h
    obtain ⟨u9, eu9, h⟩ := gl_e h
    refine gw_iast (u' := u9) hx hb (mdW_as a cA) C V 10 0 rfl rfl i8 (mdS_9 _ _ _ _ _ _ eu9) dX6_call_127 (fun H locs V => ?_)
    refine lv_aload_n hx hb dX6_call_128 rfl (lv_at hl 1 rfl) ?_
    refine va_get (C := RX6) (T := TX6) (N := 24) (ci := 5) hx hb hts igX6 hown C.1 V.1 0 rfl rfl 13 (by decide) (hts _ kt_616) (fun _ h => h) rfl dX6_call_129 ?_
    refine lv_iload hx hb dX6_call_132 (lv_at hl 0 rfl) ?_
    refine lv_iload hx hb dX6_call_134 (lv_at hl 5 rfl) ?_
    obtain ⟨i10, h⟩ := ck_e h
    obtain ⟨u11, eu11, h⟩ := gl_e h
    refine gw_iast (u' := u11) hx hb (mdW_as a cA) C V 11 0 rfl rfl i10 (mdS_10 _ _ _ _ _ _ eu11) dX6_call_136 (fun H locs V => ?_)
    refine lv_aload_n hx hb dX6_call_137 rfl (lv_at hl 1 rfl) ?_
    refine va_get (C := RX6) (T := TX6) (N := 24) (ci := 5) hx hb hts igX6 hown C.1 V.1 0 rfl rfl 14 (by decide) (hts _ kt_617) (fun _ h => h) rfl dX6_call_138 ?_
    refine lv_iload hx hb dX6_call_141 (lv_at hl 0 rfl) ?_
    refine lv_iload hx hb dX6_call_143 (lv_at hl 6 rfl) ?_
    obtain ⟨i12, h⟩ := ck_e h
    obtain ⟨u13, eu13, h⟩ := gl_e h
    refine gw_iast (u' := u13) hx hb (mdW_as a cA) C V 12 0 rfl rfl i12 (mdS_11 _ _ _ _ _ _ eu13) dX6_call_145 (fun H locs V => ?_)
    refine lv_aload_n hx hb dX6_call_146 rfl (lv_at hl 1 rfl) ?_
    refine va_get (C := RX6) (T := TX6) (N := 24) (ci := 5) hx hb hts igX6 hown C.1 V.1 0 rfl rfl 17 (by decide) (hts _ kt_620) (fun _ h => h) rfl dX6_call_147 ?_
    refine lv_iload hx hb dX6_call_150 (lv_at hl 0 rfl) ?_
    refine lv_iconst (v := (0 : Int32)) hx hb dX6_call_152 (by decide) ?_
    obtain ⟨i14, h⟩ := ck_e h
    obtain ⟨u15, eu15, h⟩ := gl_e h
    refine gw_iast (u' := u15) hx hb (mdW_as a cA) C V 15 0 rfl rfl i14 (mdS_14 _ _ _ _ _ _ eu15) dX6_call_153 (fun H locs V => ?_)
    refine lv_aload_n hx hb dX6_call_154 rfl (lv_at hl 1 rfl) ?_
    refine va_get (C := RX6) (T := TX6) (N := 24) (ci := 5) hx hb hts igX6 hown C.1 V.1 0 rfl rfl 16 (by decide) (hts _ kt_619) (fun _ h => h) rfl dX6_call_155 ?_
    refine lv_iload hx hb dX6_call_158 (lv_at hl 0 rfl) ?_
    refine lv_iload hx hb dX6_call_160 (lv_at hl 7 rfl) ?_
    obtain ⟨i16, h⟩ := ck_e h
    obtain ⟨u17, eu17, h⟩ := gl_e h
    refine gw_iast (u' := u17) hx hb (mdW_as a cA) C V 14 0 rfl rfl i16 (mdS_13 _ _ _ _ _ _ eu17) dX6_call_162 (fun H locs V => ?_)
    refine lv_aload_n hx hb dX6_call_163 rfl (lv_at hl 1 rfl) ?_
    refine va_get (C := RX6) (T := TX6) (N := 24) (ci := 5) hx hb hts igX6 hown C.1 V.1 0 rfl rfl 18 (by decide) (hts _ kt_621) (fun _ h => h) rfl dX6_call_164 ?_
    refine lv_iload hx hb dX6_call_167 (lv_at hl 0 rfl) ?_
    refine lv_aload_n hx hb dX6_call_169 rfl (lv_at hl 1 rfl) ?_
    refine va_get (C := RX6) (T := TX6) (N := 24) (ci := 5) hx hb hts igX6 hown C.1 V.1 0 rfl rfl 23 (by decide) (hts _ kt_626) (fun _ h => h) rfl dX6_call_170 ?_
    obtain ⟨i18, h⟩ := ck_e h
    obtain ⟨u19, eu19, h⟩ := gl_e h
    refine gw_iast (u' := u19) hx hb (mdW_as a cA) C V 16 0 rfl rfl i18 (mdS_15 _ _ _ _ _ _ eu19) dX6_call_173 (fun H locs V => ?_)
    refine lv_aload_n hx hb dX6_call_174 rfl (lv_at hl 1 rfl) ?_
    refine va_get (C := RX6) (T := TX6) (N := 24) (ci := 5) hx hb hts igX6 hown C.1 V.1 0 rfl rfl 15 (by decide) (hts _ kt_618) (fun _ h => h) rfl dX6_call_175 ?_
    refine lv_iload hx hb dX6_call_178 (lv_at hl 0 rfl) ?_
    refine lv_iload hx hb dX6_call_180 (lv_at hl 7 rfl) ?_
    refine lv_if_ge (tgt := 192) hx hb dX6_call_182 (by decide) (fun c20 => ?_) (fun c20 => ?_)
    · have h := if_t c20 h
      refine lv_aload_n hx hb dX6_call_192 rfl (lv_at hl 1 rfl) ?_
      refine va_get (C := RX6) (T := TX6) (N := 24) (ci := 5) hx hb hts igX6 hown C.1 V.1 0 rfl rfl 15 (by decide) (hts _ kt_618) (fun _ h => h) rfl dX6_call_193 ?_
      refine lv_iload hx hb dX6_call_196 (lv_at hl 7 rfl) ?_
      obtain ⟨i21, h⟩ := ck_e h
      refine va_iald hx hb C.1 V.1 13 0 rfl rfl i21 dX6_call_198 ?_
      exact LX6_call_199 B C w3 w3 (u19.2 12 x7.toNatClampNeg) u19 _ _ _ V (lv_sub hl [1, 0] rfl) h
    · have h := if_f c20 h
      refine lv_aload_n hx hb dX6_call_185 rfl (lv_at hl 1 rfl) ?_
      obtain ⟨v22, hv22, h⟩ := bi_e h
      refine gw_ki V (va_runV (As := []) (rest := [.int w3, .ref (a 13)]) ⟨hx, hb, hml, hown, hts⟩ (mX6_newEvent (D := D) (a := a) (cA := cA) (u := u19) hv22) (cwV 0 hts gmdX6_163 rfl rfl rfl (by decide +kernel) ⟨Nat.le_of_ble_eq_true rfl, Nat.le_of_ble_eq_true rfl⟩) (gw_preV (q0 := 0) (ci := 5) gY_ok C V [] rfl rfl) rfl rfl hl.1 rfl (lv_room (Nat.le_of_ble_eq_true rfl)) dX6_call_186 ⟨Nat.zero_le _, Nat.zero_le _⟩) (fun H locs V => ?_)
      refine lv_goto (tgt := 199) hx hb dX6_call_189 (by decide) ?_
      exact LX6_call_199 B C w3 w3 v22.1 v22.2 _ _ _ V (lv_sub hl [1, 0] rfl) h
  · have h := if_f c2 h
    refine lv_iconst (v := (0 : Int32)) hx hb dX6_call_96 (by decide) ?_
    exact gw_reti hx hb hr rfl hlk V (in2a h) (in2b h) dX6_call_97
set_option maxHeartbeats 4000000 in
theorem LX6_call_45 {p : Program} {l : Launch} {e : Env} {s : State} {m : MethodId} {below : List Frame} {meth : Method} {c : Code} {args : Array Value} {D : va_G} {a : Nat → Nat} {cA : ClassId} (B : gw_B p s m args meth c cX6_call 9 (some .int) RX6 gT) (C : gw_C D vwCl [(cA, .int)] (mdA a) gY s) {rv : Int32 × g_S} : ∀ (x1 : Int32) (x2 : Int32) (x3 : Int32) (x4 : Int32) (x5 : Int32) (x6 : Int32) (y1 : Int32) (y2 : Int32) (y3 : Int32) (u : g_S) (H : Heap) (locs : List Loc) (ls : Array Slot), gw_V D vwCl (mdA a) (mdW a cA) s u H locs → lv_has ls 9 [(0, .ref (a 0)), (1, .int x1), (2, .int x2), (3, .int x3), (4, .int x4), (5, .int x5), (6, .int x6)] → fm_call_45 u x1 x2 x3 x4 x5 x6 y1 y2 y3 = some rv → W p l e rmX6_call s m args below meth c H locs 0 0 (gw_Ei D vwCl (mdA a) (mdW a cA) below args s rv.1 rv.2) (F0 m 45 ls [.int y3, .int y2, .int y1, .ref (a 0)]) := by
  obtain ⟨hx, hb, hml, hown, hts, hr, hlk⟩ := id B
  intro x1 x2 x3 x4 x5 x6 y1 y2 y3 u H locs ls V hl h
  unfold fm_call_45 at h
  obtain ⟨v1, hv1, h⟩ := bi_e h
  refine gw_ki V (va_runV (As := [.int y1, .int y2, .int y3]) (rest := []) ⟨hx, hb, hml, hown, hts⟩ (mX6_throwing (D := D) (a := a) (cA := cA) (u := u) hv1) (cwV 3 hts gmdX6_90 rfl rfl rfl (by decide +kernel) ⟨Nat.le_of_ble_eq_true rfl, Nat.le_of_ble_eq_true rfl⟩) (gw_preV (q0 := 0) (ci := 5) gY_ok C V [.int y1, .int y2, .int y3] rfl rfl) rfl rfl hl.1 rfl (lv_room (Nat.le_of_ble_eq_true rfl)) dX6_call_45 ⟨Nat.zero_le _, Nat.zero_le _⟩) (fun H locs V => ?_)
  refine lv_if_eq (tgt := 53) hx hb dX6_call_48 (by decide) (fun c2 => ?_) (fun c2 => ?_)
  · have h := if_t c2 h
    refine lv_aload_n hx hb dX6_call_53 rfl (lv_at hl 0 rfl) ?_
    refine lv_iload_n hx hb dX6_call_54 rfl (lv_at hl 1 rfl) ?_
    refine lv_iload_n hx hb dX6_call_55 rfl (lv_at hl 2 rfl) ?_
    refine lv_iload_n hx hb dX6_call_56 rfl (lv_at hl 3 rfl) ?_
    refine lv_iload hx hb dX6_call_57 (lv_at hl 4 rfl) ?_
    refine lv_iload hx hb dX6_call_59 (lv_at hl 5 rfl) ?_
    refine lv_iload hx hb dX6_call_61 (lv_at hl 6 rfl) ?_
    obtain ⟨v3, hv3, h⟩ := bi_e h
    refine gw_ki V (va_runV (As := [.int x1, .int x2, .int x3, .int x4, .int x5, .int x6]) (rest := []) ⟨hx, hb, hml, hown, hts⟩ (mX6_reason (D := D) (a := a) (cA := cA) (u := v1.2) hv3) (cwV 6 hts gmdX6_159 rfl rfl rfl (by decide +kernel) ⟨Nat.le_of_ble_eq_true rfl, Nat.le_of_ble_eq_true rfl⟩) (gw_preV (q0 := 0) (ci := 5) gY_ok C V [.int x1, .int x2, .int x3, .int x4, .int x5, .int x6] rfl rfl) rfl rfl hl.1 rfl (lv_room (Nat.le_of_ble_eq_true rfl)) dX6_call_63 ⟨Nat.zero_le _, Nat.zero_le _⟩) (fun H locs V => ?_)
    refine lv_istore (lv' := [(7, .int v3.1), (0, .ref (a 0)), (1, .int x1), (2, .int x2), (3, .int x3), (4, .int x4), (5, .int x5), (6, .int x6)]) hx hb dX6_call_66 hl (by decide) rfl (fun ls hl => ?_)
    refine lv_aload_n hx hb dX6_call_68 rfl (lv_at hl 1 rfl) ?_
    refine lv_iconst (v := (0 : Int32)) hx hb dX6_call_69 (by decide) ?_
    refine lv_iconst (v := (0 : Int32)) hx hb dX6_call_70 (by decide) ?_
    refine lv_iload hx hb dX6_call_71 (lv_at hl 0 rfl) ?_
    refine lv_if_ge (tgt := 89) hx hb dX6_call_73 (by decide) (fun c4 => ?_) (fun c4 => ?_)
    · have h := if_t c4 h
      refine lv_iconst (v := (0 : Int32)) hx hb dX6_call_89 (by decide) ?_
      exact LX6_call_90 B C x1 x2 x3 x4 x6 v3.1 (0 : Int32) (0 : Int32) (0 : Int32) v3.2 _ _ _ V (lv_sub hl [1, 2, 3, 4, 5, 7, 0] rfl) h
    · have h := if_f c4 h
      refine lv_aload_n hx hb dX6_call_76 rfl (lv_at hl 1 rfl) ?_
      refine va_get (C := RX6) (T := TX6) (N := 24) (ci := 5) hx hb hts igX6 hown C.1 V.1 0 rfl rfl 9 (by decide) (hts _ kt_612) (fun _ h => h) rfl dX6_call_77 ?_
      refine lv_bipush (v := (60 : Int32)) hx hb dX6_call_80 (by decide) ?_
      refine lv_icmp_ne (tgt := 89) hx hb dX6_call_82 (by decide) (fun c5 => ?_) (fun c5 => ?_)
      · have h := if_t c5 h
        refine lv_iconst (v := (0 : Int32)) hx hb dX6_call_89 (by decide) ?_
        exact LX6_call_90 B C x1 x2 x3 x4 x6 v3.1 (0 : Int32) (0 : Int32) (0 : Int32) v3.2 _ _ _ V (lv_sub hl [1, 2, 3, 4, 5, 7, 0] rfl) h
      · have h := if_nn c5 h
        refine lv_iconst (v := (1 : Int32)) hx hb dX6_call_85 (by decide) ?_
        refine lv_goto (tgt := 90) hx hb dX6_call_86 (by decide) ?_
        exact LX6_call_90 B C x1 x2 x3 x4 x6 v3.1 (0 : Int32) (0 : Int32) (1 : Int32) v3.2 _ _ _ V (lv_sub hl [1, 2, 3, 4, 5, 7, 0] rfl) h
  · have h := if_f c2 h
    refine lv_iconst (v := (0 : Int32)) hx hb dX6_call_51 (by decide) ?_
    exact gw_reti hx hb hr rfl hlk V (in2a h) (in2b h) dX6_call_52
set_option maxHeartbeats 4000000 in
theorem LX6_call_31 {p : Program} {l : Launch} {e : Env} {s : State} {m : MethodId} {below : List Frame} {meth : Method} {c : Code} {args : Array Value} {D : va_G} {a : Nat → Nat} {cA : ClassId} (B : gw_B p s m args meth c cX6_call 9 (some .int) RX6 gT) (C : gw_C D vwCl [(cA, .int)] (mdA a) gY s) {rv : Int32 × g_S} : ∀ (x1 : Int32) (x2 : Int32) (x3 : Int32) (x4 : Int32) (x5 : Int32) (x6 : Int32) (y1 : Int32) (y2 : Int32) (u : g_S) (H : Heap) (locs : List Loc) (ls : Array Slot), gw_V D vwCl (mdA a) (mdW a cA) s u H locs → lv_has ls 9 [(0, .ref (a 0)), (1, .int x1), (2, .int x2), (3, .int x3), (4, .int x4), (5, .int x5), (6, .int x6)] → fm_call_31 u x1 x2 x3 x4 x5 x6 y1 y2 = some rv → W p l e rmX6_call s m args below meth c H locs 0 0 (gw_Ei D vwCl (mdA a) (mdW a cA) below args s rv.1 rv.2) (F0 m 31 ls [.int y2, .int y1, .ref (a 0)]) := by
  obtain ⟨hx, hb, hml, hown, hts, hr, hlk⟩ := id B
  intro x1 x2 x3 x4 x5 x6 y1 y2 u H locs ls V hl h
  unfold fm_call_31 at h
  refine lv_aload_n hx hb dX6_call_31 rfl (lv_at hl 0 rfl) ?_
  refine va_get (C := RX6) (T := TX6) (N := 24) (ci := 5) hx hb hts igX6 hown C.1 V.1 0 rfl rfl 8 (by decide) (hts _ kt_611) (fun _ h => h) rfl dX6_call_32 ?_
  refine lv_bipush (v := (120 : Int32)) hx hb dX6_call_35 (by decide) ?_
  refine lv_icmp_ne (tgt := 44) hx hb dX6_call_37 (by decide) (fun c1 => ?_) (fun c1 => ?_)
  · have h := if_t c1 h
    refine lv_iconst (v := (0 : Int32)) hx hb dX6_call_44 (by decide) ?_
    exact LX6_call_45 B C x1 x2 x3 x4 x5 x6 y1 y2 (0 : Int32) u _ _ _ V (lv_sub hl [0, 1, 2, 3, 4, 5, 6] rfl) h
  · have h := if_nn c1 h
    refine lv_iconst (v := (1 : Int32)) hx hb dX6_call_40 (by decide) ?_
    refine lv_goto (tgt := 45) hx hb dX6_call_41 (by decide) ?_
    exact LX6_call_45 B C x1 x2 x3 x4 x5 x6 y1 y2 (1 : Int32) u _ _ _ V (lv_sub hl [0, 1, 2, 3, 4, 5, 6] rfl) h
set_option maxHeartbeats 4000000 in
theorem LX6_call_15 {p : Program} {l : Launch} {e : Env} {s : State} {m : MethodId} {below : List Frame} {meth : Method} {c : Code} {args : Array Value} {D : va_G} {a : Nat → Nat} {cA : ClassId} (B : gw_B p s m args meth c cX6_call 9 (some .int) RX6 gT) (C : gw_C D vwCl [(cA, .int)] (mdA a) gY s) {rv : Int32 × g_S} : ∀ (x1 : Int32) (x2 : Int32) (x3 : Int32) (x4 : Int32) (x5 : Int32) (x6 : Int32) (y1 : Int32) (u : g_S) (H : Heap) (locs : List Loc) (ls : Array Slot), gw_V D vwCl (mdA a) (mdW a cA) s u H locs → lv_has ls 9 [(0, .ref (a 0)), (1, .int x1), (2, .int x2), (3, .int x3), (4, .int x4), (5, .int x5), (6, .int x6)] → fm_call_15 u x1 x2 x3 x4 x5 x6 y1 = some rv → W p l e rmX6_call s m args below meth c H locs 0 0 (gw_Ei D vwCl (mdA a) (mdW a cA) below args s rv.1 rv.2) (F0 m 15 ls [.int y1, .ref (a 0)]) := by
  obtain ⟨hx, hb, hml, hown, hts, hr, hlk⟩ := id B
  intro x1 x2 x3 x4 x5 x6 y1 u H locs ls V hl h
  unfold fm_call_15 at h
  refine lv_aload_n hx hb dX6_call_15 rfl (lv_at hl 0 rfl) ?_
  refine lv_iload_n hx hb dX6_call_16 rfl (lv_at hl 1 rfl) ?_
  refine lv_iload_n hx hb dX6_call_17 rfl (lv_at hl 3 rfl) ?_
  refine lv_iload hx hb dX6_call_18 (lv_at hl 6 rfl) ?_
  obtain ⟨v1, hv1, h⟩ := bi_e h
  refine gw_ki V (va_runV (As := [.int x1, .int x3, .int x6]) (rest := [.int y1, .ref (a 0)]) ⟨hx, hb, hml, hown, hts⟩ (mX6_isRange (D := D) (a := a) (cA := cA) (u := u) hv1) (cwV 3 hts gmdX6_156 rfl rfl rfl (by decide +kernel) ⟨Nat.le_of_ble_eq_true rfl, Nat.le_of_ble_eq_true rfl⟩) (gw_preV (q0 := 0) (ci := 5) gY_ok C V [.int x1, .int x3, .int x6] rfl rfl) rfl rfl hl.1 rfl (lv_room (Nat.le_of_ble_eq_true rfl)) dX6_call_20 ⟨Nat.zero_le _, Nat.zero_le _⟩) (fun H locs V => ?_)
  refine lv_if_ne (tgt := 30) hx hb dX6_call_23 (by decide) (fun c2 => ?_) (fun c2 => ?_)
  · have h := if_t c2 h
    refine lv_iconst (v := (0 : Int32)) hx hb dX6_call_30 (by decide) ?_
    exact LX6_call_31 B C x1 x2 x3 x4 x5 x6 y1 (0 : Int32) u _ _ _ V (lv_sub hl [0, 1, 2, 3, 4, 5, 6] rfl) h
  · have h := if_nn c2 h
    refine lv_iconst (v := (1 : Int32)) hx hb dX6_call_26 (by decide) ?_
    refine lv_goto (tgt := 31) hx hb dX6_call_27 (by decide) ?_
    exact LX6_call_31 B C x1 x2 x3 x4 x5 x6 y1 (1 : Int32) u _ _ _ V (lv_sub hl [0, 1, 2, 3, 4, 5, 6] rfl) h
set_option maxHeartbeats 4000000 in
theorem mX6_call {l : Launch} {D : va_G} {a : Nat → Nat} {cA : ClassId} {sz : Nat} {u : g_S} {p1 : Int32} {p2 : Int32} {p3 : Int32} {p4 : Int32} {p5 : Int32} {p6 : Int32} {rv : Int32 × g_S} (h : fm_call u p1 p2 p3 p4 p5 p6 = some rv) : gw_Mi D vwCl [(cA, .int)] (mdA a) gY (mdW a cA) l yX6_call wxX6_call rmX6_call sz u [.ref (a 0), .int p1, .int p2, .int p3, .int p4, .int p5, .int p6] rv.1 rv.2 := by
  refine gw_Mof (Qc := fun z => va_Qi (gw_Pi rv.1 rv.2) (gw_W D vwCl (mdW a cA)) (rg (mdA a) z)) (cc := cX6_call) (maxL := 9) (ret := (some .int)) (by decide) rfl ?_
  intro p e s m below meth c B C V
  obtain ⟨hx, hb, hml, hown, hts, hr, hlk⟩ := id B
  have hl := lv_entry ([.ref (a 0), .int p1, .int p2, .int p3, .int p4, .int p5, .int p6]) (n := 9) (Nat.le_of_ble_eq_true rfl)
  rw [lg_entry_eq]
  generalize (lg_sl ([.ref (a 0), .int p1, .int p2, .int p3, .int p4, .int p5, .int p6]) ++ List.replicate (9 - (lg_sl ([.ref (a 0), .int p1, .int p2, .int p3, .int p4, .int p5, .int p6])).length) Slot.unset).toArray = ls at hl ⊢
  have hl : lv_has ls 9 [(0, .ref (a 0)), (1, .int p1), (2, .int p2), (3, .int p3), (4, .int p4), (5, .int p5), (6, .int p6)] := hl
  unfold fm_call at h
  refine lv_aload_n hx hb dX6_call_0 rfl (lv_at hl 0 rfl) ?_
  refine lv_iload_n hx hb dX6_call_1 rfl (lv_at hl 2 rfl) ?_
  refine lv_iload hx hb dX6_call_2 (lv_at hl 5 rfl) ?_
  obtain ⟨v1, hv1, h⟩ := bi_e h
  refine gw_ki V (va_runS (As := [.int p2, .int p5]) (rest := [.ref (a 0)]) ⟨hx, hb, hml, hown, hts⟩ (mX6_isKnown (D := D) (a := a) (cA := cA) (u := u) hv1) (cwS 2 hts gmdX6_152 rfl rfl rfl (by decide +kernel) ⟨Nat.le_of_ble_eq_true rfl, Nat.le_of_ble_eq_true rfl⟩) (gw_preS gY_ok C V [.int p2, .int p5]) rfl rfl hl.1 rfl (lv_room (Nat.le_of_ble_eq_true rfl)) dX6_call_4 ⟨Nat.zero_le _, Nat.zero_le _⟩) (fun H locs V => ?_)
  refine lv_if_ne (tgt := 14) hx hb dX6_call_7 (by decide) (fun c2 => ?_) (fun c2 => ?_)
  · have h := if_t c2 h
    refine lv_iconst (v := (0 : Int32)) hx hb dX6_call_14 (by decide) ?_
    exact LX6_call_15 B C p1 p2 p3 p4 p5 p6 (0 : Int32) u _ _ _ V (lv_sub hl [0, 1, 2, 3, 4, 5, 6] rfl) h
  · have h := if_nn c2 h
    refine lv_iconst (v := (1 : Int32)) hx hb dX6_call_10 (by decide) ?_
    refine lv_goto (tgt := 15) hx hb dX6_call_11 (by decide) ?_
    exact LX6_call_15 B C p1 p2 p3 p4 p5 p6 (1 : Int32) u _ _ _ V (lv_sub hl [0, 1, 2, 3, 4, 5, 6] rfl) h
