set_option maxHeartbeats 4000000 in
theorem LX6_point_59 {p : Program} {l : Launch} {e : Env} {s : State} {m : MethodId} {below : List Frame} {meth : Method} {c : Code} {args : Array Value} {D : va_G} {a : Nat → Nat} {cA : ClassId} (B : gw_B p s m args meth c cX6_point 3 (some .int) RX6 gT) (C : gw_C D vwCl [(cA, .int)] (mdA a) gY s) {rv : Int32 × g_S} : ∀ (x1 : Int32) (x2 : Int32) (y1 : Int32) (y2 : Int32) (y3 : Int32) (u : g_S) (H : Heap) (locs : List Loc) (ls : Array Slot), gw_V D vwCl (mdA a) (mdW a cA) s u H locs → lv_has ls 3 [(0, .ref (a 0)), (1, .int x1), (2, .int x2)] → fm_point_59 u x1 x2 y1 y2 y3 = some rv → W p l e rmX6_point s m args below meth c H locs 0 0 (gw_Ei D vwCl (mdA a) (mdW a cA) below args s rv.1 rv.2) (F0 m 59 ls [.int y3, .int y2, .int y1, .ref (a 0)]) := by
  obtain ⟨hx, hb, hml, hown, hts, hr, hlk⟩ := id B
  intro x1 x2 y1 y2 y3 u H locs ls V hl h
  unfold fm_point_59 at h
  obtain ⟨v1, hv1, h⟩ := bi_e h
  refine gw_ki V (va_runV (As := [.int y1, .int y2, .int y3]) (rest := []) ⟨hx, hb, hml, hown, hts⟩ (mX6_throwing (D := D) (a := a) (cA := cA) (u := u) hv1) (cwV 3 hts gmdX6_90 rfl rfl rfl (by decide +kernel) ⟨Nat.le_of_ble_eq_true rfl, Nat.le_of_ble_eq_true rfl⟩) (gw_preV (q0 := 0) (ci := 5) gY_ok C V [.int y1, .int y2, .int y3] rfl rfl) rfl rfl hl.1 rfl (lv_room (Nat.le_of_ble_eq_true rfl)) dX6_point_59 ⟨Nat.zero_le _, Nat.zero_le _⟩) (fun H locs V => ?_)
  refine lv_if_eq (tgt := 67) hx hb dX6_point_62 (by decide) (fun c2 => ?_) (fun c2 => ?_)
  · have h := if_t c2 h
    refine lv_aload_n hx hb dX6_point_67 rfl (lv_at hl 0 rfl) ?_
    refine va_get (C := RX6) (T := TX6) (N := 24) (ci := 5) hx hb hts igX6 hown C.1 V.1 0 rfl rfl 7 (by decide) (hts _ kt_610) (fun _ h => h) rfl dX6_point_68 ?_
    refine lv_bipush (v := (8 : Int32)) hx hb dX6_point_71 (by decide) ?_
    refine lv_iload_n hx hb dX6_point_73 rfl (lv_at hl 1 rfl) ?_
    refine lv_imul hx hb dX6_point_74 ?_
    refine lv_aload_n hx hb dX6_point_75 rfl (lv_at hl 0 rfl) ?_
    refine va_get (C := RX6) (T := TX6) (N := 24) (ci := 5) hx hb hts igX6 hown C.1 V.1 0 rfl rfl 6 (by decide) (hts _ kt_609) (fun _ h => h) rfl dX6_point_76 ?_
    refine lv_iload_n hx hb dX6_point_79 rfl (lv_at hl 1 rfl) ?_
    obtain ⟨i3, h⟩ := ck_e h
    refine va_iald hx hb C.1 V.1 6 0 rfl rfl i3 dX6_point_80 ?_
    refine lv_iadd hx hb dX6_point_81 ?_
    refine lv_iload_n hx hb dX6_point_82 rfl (lv_at hl 2 rfl) ?_
    obtain ⟨i4, h⟩ := ck_e h
    obtain ⟨u5, eu5, h⟩ := gl_e h
    refine gw_iast (u' := u5) hx hb (mdW_as a cA) C V 7 0 rfl rfl i4 (mdS_6 _ _ _ _ _ _ eu5) dX6_point_83 (fun H locs V => ?_)
    refine lv_aload_n hx hb dX6_point_84 rfl (lv_at hl 0 rfl) ?_
    refine va_get (C := RX6) (T := TX6) (N := 24) (ci := 5) hx hb hts igX6 hown C.1 V.1 0 rfl rfl 6 (by decide) (hts _ kt_609) (fun _ h => h) rfl dX6_point_85 ?_
    refine lv_iload_n hx hb dX6_point_88 rfl (lv_at hl 1 rfl) ?_
    refine lv_dup2_11 hx hb dX6_point_89 rfl rfl ?_
    obtain ⟨i6, h⟩ := ck_e h
    refine va_iald hx hb C.1 V.1 6 0 rfl rfl i6 dX6_point_90 ?_
    refine lv_iconst (v := (1 : Int32)) hx hb dX6_point_91 (by decide) ?_
    refine lv_iadd hx hb dX6_point_92 ?_
    obtain ⟨i7, h⟩ := ck_e h
    obtain ⟨u8, eu8, h⟩ := gl_e h
    refine gw_iast (u' := u8) hx hb (mdW_as a cA) C V 6 0 rfl rfl i7 (mdS_5 _ _ _ _ _ _ eu8) dX6_point_93 (fun H locs V => ?_)
    refine lv_aload_n hx hb dX6_point_94 rfl (lv_at hl 0 rfl) ?_
    refine va_get (C := RX6) (T := TX6) (N := 24) (ci := 5) hx hb hts igX6 hown C.1 V.1 0 rfl rfl 6 (by decide) (hts _ kt_609) (fun _ h => h) rfl dX6_point_95 ?_
    refine lv_iload_n hx hb dX6_point_98 rfl (lv_at hl 1 rfl) ?_
    obtain ⟨i9, h⟩ := ck_e h
    refine va_iald hx hb C.1 V.1 6 0 rfl rfl i9 dX6_point_99 ?_
    exact gw_reti hx hb hr rfl hlk V (in2a h) (in2b h) dX6_point_100
  · have h := if_f c2 h
    refine lv_iconst (v := (0 : Int32)) hx hb dX6_point_65 (by decide) ?_
    exact gw_reti hx hb hr rfl hlk V (in2a h) (in2b h) dX6_point_66
set_option maxHeartbeats 4000000 in
theorem LX6_point_48 {p : Program} {l : Launch} {e : Env} {s : State} {m : MethodId} {below : List Frame} {meth : Method} {c : Code} {args : Array Value} {D : va_G} {a : Nat → Nat} {cA : ClassId} (B : gw_B p s m args meth c cX6_point 3 (some .int) RX6 gT) (C : gw_C D vwCl [(cA, .int)] (mdA a) gY s) {rv : Int32 × g_S} : ∀ (x1 : Int32) (x2 : Int32) (y1 : Int32) (y2 : Int32) (y4 : Int32) (u : g_S) (H : Heap) (locs : List Loc) (ls : Array Slot), gw_V D vwCl (mdA a) (mdW a cA) s u H locs → lv_has ls 3 [(0, .ref (a 0)), (1, .int x1), (2, .int x2)] → fm_point_48 u x1 x2 y1 y2 y4 = some rv → W p l e rmX6_point s m args below meth c H locs 0 0 (gw_Ei D vwCl (mdA a) (mdW a cA) below args s rv.1 rv.2) (F0 m 48 ls [.int y4, .ref (a 6), .int y2, .int y1, .ref (a 0)]) := by
  obtain ⟨hx, hb, hml, hown, hts, hr, hlk⟩ := id B
  intro x1 x2 y1 y2 y4 u H locs ls V hl h
  unfold fm_point_48 at h
  obtain ⟨i1, h⟩ := ck_e h
  refine va_iald hx hb C.1 V.1 6 0 rfl rfl i1 dX6_point_48 ?_
  refine lv_bipush (v := (8 : Int32)) hx hb dX6_point_49 (by decide) ?_
  refine lv_icmp_ne (tgt := 58) hx hb dX6_point_51 (by decide) (fun c2 => ?_) (fun c2 => ?_)
  · have h := if_t c2 h
    refine lv_iconst (v := (0 : Int32)) hx hb dX6_point_58 (by decide) ?_
    exact LX6_point_59 B C x1 x2 y1 y2 (0 : Int32) u _ _ _ V (lv_sub hl [0, 1, 2] rfl) h
  · have h := if_nn c2 h
    refine lv_iconst (v := (1 : Int32)) hx hb dX6_point_54 (by decide) ?_
    refine lv_goto (tgt := 59) hx hb dX6_point_55 (by decide) ?_
    exact LX6_point_59 B C x1 x2 y1 y2 (1 : Int32) u _ _ _ V (lv_sub hl [0, 1, 2] rfl) h
set_option maxHeartbeats 4000000 in
theorem LX6_point_25 {p : Program} {l : Launch} {e : Env} {s : State} {m : MethodId} {below : List Frame} {meth : Method} {c : Code} {args : Array Value} {D : va_G} {a : Nat → Nat} {cA : ClassId} (B : gw_B p s m args meth c cX6_point 3 (some .int) RX6 gT) (C : gw_C D vwCl [(cA, .int)] (mdA a) gY s) {rv : Int32 × g_S} : ∀ (x1 : Int32) (x2 : Int32) (y1 : Int32) (y2 : Int32) (u : g_S) (H : Heap) (locs : List Loc) (ls : Array Slot), gw_V D vwCl (mdA a) (mdW a cA) s u H locs → lv_has ls 3 [(0, .ref (a 0)), (1, .int x1), (2, .int x2)] → fm_point_25 u x1 x2 y1 y2 = some rv → W p l e rmX6_point s m args below meth c H locs 0 0 (gw_Ei D vwCl (mdA a) (mdW a cA) below args s rv.1 rv.2) (F0 m 25 ls [.int y2, .int y1, .ref (a 0)]) := by
  obtain ⟨hx, hb, hml, hown, hts, hr, hlk⟩ := id B
  intro x1 x2 y1 y2 u H locs ls V hl h
  unfold fm_point_25 at h
  refine lv_iload_n hx hb dX6_point_25 rfl (lv_at hl 1 rfl) ?_
  obtain ⟨v1, hv1, h⟩ := bi_e h
  refine gw_ki V (va_runS (As := [.int x1]) (rest := [.int y2, .int y1, .ref (a 0)]) ⟨hx, hb, hml, hown, hts⟩ (mX6_isRoad (D := D) (a := a) (cA := cA) (u := u) hv1) (cwS 1 hts gmdX6_94 rfl rfl rfl (by decide +kernel) ⟨Nat.le_of_ble_eq_true rfl, Nat.le_of_ble_eq_true rfl⟩) (gw_preS gY_ok C V [.int x1]) rfl rfl hl.1 rfl (lv_room (Nat.le_of_ble_eq_true rfl)) dX6_point_26 ⟨Nat.zero_le _, Nat.zero_le _⟩) (fun H locs V => ?_)
  refine lv_if_eq (tgt := 58) hx hb dX6_point_29 (by decide) (fun c2 => ?_) (fun c2 => ?_)
  · have h := if_t c2 h
    refine lv_iconst (v := (0 : Int32)) hx hb dX6_point_58 (by decide) ?_
    exact LX6_point_59 B C x1 x2 y1 y2 (0 : Int32) u _ _ _ V (lv_sub hl [0, 1, 2] rfl) h
  · have h := if_f c2 h
    refine lv_aload_n hx hb dX6_point_32 rfl (lv_at hl 0 rfl) ?_
    refine va_get (C := RX6) (T := TX6) (N := 24) (ci := 5) hx hb hts igX6 hown C.1 V.1 0 rfl rfl 6 (by decide) (hts _ kt_609) (fun _ h => h) rfl dX6_point_33 ?_
    refine lv_iload_n hx hb dX6_point_36 rfl (lv_at hl 1 rfl) ?_
    obtain ⟨v3, hv3, h⟩ := bi_e h
    refine gw_ki V (va_runS (As := [.int x1]) (rest := [.ref (a 6), .int y2, .int y1, .ref (a 0)]) ⟨hx, hb, hml, hown, hts⟩ (mX6_isRoad (D := D) (a := a) (cA := cA) (u := u) hv3) (cwS 1 hts gmdX6_94 rfl rfl rfl (by decide +kernel) ⟨Nat.le_of_ble_eq_true rfl, Nat.le_of_ble_eq_true rfl⟩) (gw_preS gY_ok C V [.int x1]) rfl rfl hl.1 rfl (lv_room (Nat.le_of_ble_eq_true rfl)) dX6_point_37 ⟨Nat.zero_le _, Nat.zero_le _⟩) (fun H locs V => ?_)
    refine lv_if_eq (tgt := 47) hx hb dX6_point_40 (by decide) (fun c4 => ?_) (fun c4 => ?_)
    · have h := if_t c4 h
      refine lv_iconst (v := (0 : Int32)) hx hb dX6_point_47 (by decide) ?_
      exact LX6_point_48 B C x1 x2 y1 y2 (0 : Int32) u _ _ _ V (lv_sub hl [0, 1, 2] rfl) h
    · have h := if_f c4 h
      refine lv_iload_n hx hb dX6_point_43 rfl (lv_at hl 1 rfl) ?_
      refine lv_goto (tgt := 48) hx hb dX6_point_44 (by decide) ?_
      exact LX6_point_48 B C x1 x2 y1 y2 x1 u _ _ _ V (lv_sub hl [0, 1, 2] rfl) h
set_option maxHeartbeats 4000000 in
theorem LX6_point_13 {p : Program} {l : Launch} {e : Env} {s : State} {m : MethodId} {below : List Frame} {meth : Method} {c : Code} {args : Array Value} {D : va_G} {a : Nat → Nat} {cA : ClassId} (B : gw_B p s m args meth c cX6_point 3 (some .int) RX6 gT) (C : gw_C D vwCl [(cA, .int)] (mdA a) gY s) {rv : Int32 × g_S} : ∀ (x1 : Int32) (x2 : Int32) (y1 : Int32) (u : g_S) (H : Heap) (locs : List Loc) (ls : Array Slot), gw_V D vwCl (mdA a) (mdW a cA) s u H locs → lv_has ls 3 [(0, .ref (a 0)), (1, .int x1), (2, .int x2)] → fm_point_13 u x1 x2 y1 = some rv → W p l e rmX6_point s m args below meth c H locs 0 0 (gw_Ei D vwCl (mdA a) (mdW a cA) below args s rv.1 rv.2) (F0 m 13 ls [.int y1, .ref (a 0)]) := by
  obtain ⟨hx, hb, hml, hown, hts, hr, hlk⟩ := id B
  intro x1 x2 y1 u H locs ls V hl h
  unfold fm_point_13 at h
  refine lv_iload_n hx hb dX6_point_13 rfl (lv_at hl 2 rfl) ?_
  obtain ⟨v1, hv1, h⟩ := bi_e h
  refine gw_ki V (va_runS (As := [.int x2]) (rest := [.int y1, .ref (a 0)]) ⟨hx, hb, hml, hown, hts⟩ (mX6_isPoint (D := D) (a := a) (cA := cA) (u := u) hv1) (cwS 1 hts gmdX6_97 rfl rfl rfl (by decide +kernel) ⟨Nat.le_of_ble_eq_true rfl, Nat.le_of_ble_eq_true rfl⟩) (gw_preS gY_ok C V [.int x2]) rfl rfl hl.1 rfl (lv_room (Nat.le_of_ble_eq_true rfl)) dX6_point_14 ⟨Nat.zero_le _, Nat.zero_le _⟩) (fun H locs V => ?_)
  refine lv_if_ne (tgt := 24) hx hb dX6_point_17 (by decide) (fun c2 => ?_) (fun c2 => ?_)
  · have h := if_t c2 h
    refine lv_iconst (v := (0 : Int32)) hx hb dX6_point_24 (by decide) ?_
    exact LX6_point_25 B C x1 x2 y1 (0 : Int32) u _ _ _ V (lv_sub hl [0, 1, 2] rfl) h
  · have h := if_nn c2 h
    refine lv_iconst (v := (1 : Int32)) hx hb dX6_point_20 (by decide) ?_
    refine lv_goto (tgt := 25) hx hb dX6_point_21 (by decide) ?_
    exact LX6_point_25 B C x1 x2 y1 (1 : Int32) u _ _ _ V (lv_sub hl [0, 1, 2] rfl) h
set_option maxHeartbeats 4000000 in
theorem mX6_point {l : Launch} {D : va_G} {a : Nat → Nat} {cA : ClassId} {sz : Nat} {u : g_S} {p1 : Int32} {p2 : Int32} {rv : Int32 × g_S} (h : fm_point u p1 p2 = some rv) : gw_Mi D vwCl [(cA, .int)] (mdA a) gY (mdW a cA) l yX6_point wxX6_point rmX6_point sz u [.ref (a 0), .int p1, .int p2] rv.1 rv.2 := by
  refine gw_Mof (Qc := fun z => va_Qi (gw_Pi rv.1 rv.2) (gw_W D vwCl (mdW a cA)) (rg (mdA a) z)) (cc := cX6_point) (maxL := 3) (ret := (some .int)) (by decide) rfl ?_
  intro p e s m below meth c B C V
  obtain ⟨hx, hb, hml, hown, hts, hr, hlk⟩ := id B
  have hl := lv_entry ([.ref (a 0), .int p1, .int p2]) (n := 3) (Nat.le_of_ble_eq_true rfl)
  rw [lg_entry_eq]
  generalize (lg_sl ([.ref (a 0), .int p1, .int p2]) ++ List.replicate (3 - (lg_sl ([.ref (a 0), .int p1, .int p2])).length) Slot.unset).toArray = ls at hl ⊢
  have hl : lv_has ls 3 [(0, .ref (a 0)), (1, .int p1), (2, .int p2)] := hl
  unfold fm_point at h
  refine lv_aload_n hx hb dX6_point_0 rfl (lv_at hl 0 rfl) ?_
  refine lv_iload_n hx hb dX6_point_1 rfl (lv_at hl 1 rfl) ?_
  obtain ⟨v1, hv1, h⟩ := bi_e h
  refine gw_ki V (va_runS (As := [.int p1]) (rest := [.ref (a 0)]) ⟨hx, hb, hml, hown, hts⟩ (mX6_isRoad (D := D) (a := a) (cA := cA) (u := u) hv1) (cwS 1 hts gmdX6_94 rfl rfl rfl (by decide +kernel) ⟨Nat.le_of_ble_eq_true rfl, Nat.le_of_ble_eq_true rfl⟩) (gw_preS gY_ok C V [.int p1]) rfl rfl hl.1 rfl (lv_room (Nat.le_of_ble_eq_true rfl)) dX6_point_2 ⟨Nat.zero_le _, Nat.zero_le _⟩) (fun H locs V => ?_)
  refine lv_if_ne (tgt := 12) hx hb dX6_point_5 (by decide) (fun c2 => ?_) (fun c2 => ?_)
  · have h := if_t c2 h
    refine lv_iconst (v := (0 : Int32)) hx hb dX6_point_12 (by decide) ?_
    exact LX6_point_13 B C p1 p2 (0 : Int32) u _ _ _ V (lv_sub hl [0, 1, 2] rfl) h
  · have h := if_nn c2 h
    refine lv_iconst (v := (1 : Int32)) hx hb dX6_point_8 (by decide) ?_
    refine lv_goto (tgt := 13) hx hb dX6_point_9 (by decide) ?_
    exact LX6_point_13 B C p1 p2 (1 : Int32) u _ _ _ V (lv_sub hl [0, 1, 2] rfl) h
set_option maxHeartbeats 4000000 in
theorem mX6_squareOf {l : Launch} {D : va_G} {a : Nat → Nat} {cA : ClassId} {sz : Nat} {u : g_S} {p0 : Int32} {p1 : Int32} {rv : Int64} (h : fm_squareOf p0 p1 = some rv) : gw_Ml D vwCl [(cA, .int)] (mdA a) gY (mdW a cA) l yX6_squareOf wxX6_squareOf rmX6_squareOf sz u [.int p0, .int p1] rv u := by
  refine gw_Mof (Qc := fun z => va_Ql (gw_Pl rv u) (gw_W D vwCl (mdW a cA)) (rg (mdA a) z)) (cc := cX6_squareOf) (maxL := 6) (ret := (some .long)) (by decide) rfl ?_
  intro p e s m below meth c B C V
  obtain ⟨hx, hb, hml, hown, hts, hr, hlk⟩ := id B
  have hl := lv_entry ([.int p0, .int p1]) (n := 6) (Nat.le_of_ble_eq_true rfl)
  rw [lg_entry_eq]
  generalize (lg_sl ([.int p0, .int p1]) ++ List.replicate (6 - (lg_sl ([.int p0, .int p1])).length) Slot.unset).toArray = ls at hl ⊢
  have hl : lv_has ls 6 [(0, .int p0), (1, .int p1)] := hl
  unfold fm_squareOf at h
  refine lv_iload_n hx hb dX6_squareOf_0 rfl (lv_at hl 0 rfl) ?_
  refine lv_sipush (v := (10000 : Int32)) hx hb dX6_squareOf_1 (by decide) ?_
  refine lv_idiv hx hb dX6_squareOf_4 (by decide) ?_
  refine lv_iload_n hx hb dX6_squareOf_5 rfl (lv_at hl 1 rfl) ?_
  refine lv_sipush (v := (10000 : Int32)) hx hb dX6_squareOf_6 (by decide) ?_
  refine lv_idiv hx hb dX6_squareOf_9 (by decide) ?_
  refine lv_isub hx hb dX6_squareOf_10 ?_
  refine lv_i2l (v := (Int32.toInt64 ((p0 / (10000 : Int32)) - (p1 / (10000 : Int32))))) hx hb dX6_squareOf_11 rfl ?_
  obtain ⟨w1, ew1, h⟩ := gl_e h
  refine gw_nml ew1 ?_
  refine lv_lstore_n (lv' := [(2, .long w1), (0, .int p0), (1, .int p1)]) hx hb dX6_squareOf_12 rfl hl (by decide) rfl (fun ls hl => ?_)
  refine lv_iload_n hx hb dX6_squareOf_13 rfl (lv_at hl 1 rfl) ?_
  refine lv_sipush (v := (10000 : Int32)) hx hb dX6_squareOf_14 (by decide) ?_
  refine lv_irem hx hb dX6_squareOf_17 (by decide) ?_
  refine lv_iload_n hx hb dX6_squareOf_18 rfl (lv_at hl 2 rfl) ?_
  refine lv_sipush (v := (10000 : Int32)) hx hb dX6_squareOf_19 (by decide) ?_
  refine lv_irem hx hb dX6_squareOf_22 (by decide) ?_
  refine lv_isub hx hb dX6_squareOf_23 ?_
  refine lv_i2l (v := (Int32.toInt64 ((p0 - p0 / (10000 : Int32) * (10000 : Int32)) - (p1 - p1 / (10000 : Int32) * (10000 : Int32))))) hx hb dX6_squareOf_24 rfl ?_
  obtain ⟨w2, ew2, h⟩ := gl_e h
  refine gw_nml ew2 ?_
  refine lv_lstore (lv' := [(4, .long w2), (2, .long w1), (0, .int p0), (1, .int p1)]) hx hb dX6_squareOf_25 hl (by decide) rfl (fun ls hl => ?_)
  refine lv_lload_n hx hb dX6_squareOf_27 rfl (lv_at hl 1 rfl) ?_
  refine lv_lload_n hx hb dX6_squareOf_28 rfl (lv_at hl 1 rfl) ?_
  refine lv_lmul hx hb dX6_squareOf_29 ?_
  refine lv_lload hx hb dX6_squareOf_30 (lv_at hl 0 rfl) ?_
  refine lv_lload hx hb dX6_squareOf_32 (lv_at hl 0 rfl) ?_
  refine lv_lmul hx hb dX6_squareOf_34 ?_
  refine lv_ladd hx hb dX6_squareOf_35 ?_
  exact gw_retl hx hb hr hlk V (Option.some.inj h) rfl dX6_squareOf_36
set_option maxHeartbeats 4000000 in
theorem LX6_sum_5 {p : Program} {l : Launch} {e : Env} {s : State} {m : MethodId} {below : List Frame} {meth : Method} {c : Code} {args : Array Value} {D : va_G} {a : Nat → Nat} {cA : ClassId} (B : gw_B p s m args meth c cX6_sum 5 (some .int) RX6 gT) (C : gw_C D vwCl [(cA, .int)] (mdA a) gY s) {rv : Int32} {u : g_S} : ∀ (n : Nat) (x1 : Int32) (x2 : Int32) (x3 : Int32) (x4 : Int32) (H : Heap) (locs : List Loc) (ls : Array Slot), gw_V D vwCl (mdA a) (mdW a cA) s u H locs → lv_has ls 5 [(0, .ref (a 0)), (1, .int x1), (2, .int x2), (3, .int x3), (4, .int x4)] → fm_sum_5 u n x1 x2 x3 x4 = some rv → W p l e rmX6_sum s m args below meth c H locs 0 0 (gw_Ei D vwCl (mdA a) (mdW a cA) below args s rv u) (F0 m 5 ls []) := by
  obtain ⟨hx, hb, hml, hown, hts, hr, hlk⟩ := id B
  intro n
  induction n with
  | zero =>
    intro x1 x2 x3 x4 H locs ls V hl h
    cases h
  | succ n ih =>
    intro x1 x2 x3 x4 H locs ls V hl h
    rw [fm_sum_5_s] at h
    refine lv_iload hx hb dX6_sum_5 (lv_at hl 4 rfl) ?_
    refine lv_bipush (v := (32 : Int32)) hx hb dX6_sum_7 (by decide) ?_
    refine lv_icmp_ge (tgt := 47) hx hb dX6_sum_9 (by decide) (fun c1 => ?_) (fun c1 => ?_)
    · have h := if_t c1 h
      refine lv_iload_n hx hb dX6_sum_47 rfl (lv_at hl 3 rfl) ?_
      exact gw_reti hx hb hr rfl hlk V (Option.some.inj h) rfl dX6_sum_48
    · have h := if_f c1 h
      refine lv_iload_n hx hb dX6_sum_12 rfl (lv_at hl 3 rfl) ?_
      refine lv_iload_n hx hb dX6_sum_13 rfl (lv_at hl 1 rfl) ?_
      refine lv_iload hx hb dX6_sum_14 (lv_at hl 4 rfl) ?_
      refine lv_ishr hx hb dX6_sum_16 ?_
      refine lv_iconst (v := (1 : Int32)) hx hb dX6_sum_17 (by decide) ?_
      refine lv_iand hx hb dX6_sum_18 ?_
      refine lv_iconst (v := (1 : Int32)) hx hb dX6_sum_19 (by decide) ?_
      refine lv_icmp_ne (tgt := 38) hx hb dX6_sum_20 (by decide) (fun c2 => ?_) (fun c2 => ?_)
      · have h := if_t c2 h
        refine lv_iconst (v := (0 : Int32)) hx hb dX6_sum_38 (by decide) ?_
        refine lv_iadd hx hb dX6_sum_39 ?_
        obtain ⟨w3, ew3, h⟩ := gl_e h
        refine gw_nmi ew3 ?_
        refine lv_istore_n (lv' := [(3, .int w3), (0, .ref (a 0)), (1, .int x1), (2, .int x2), (4, .int x4)]) hx hb dX6_sum_40 rfl hl (by decide) rfl (fun ls hl => ?_)
        refine lv_iinc (v := (x4 + (1 : Int32))) (lv' := [(4, .int (x4 + (1 : Int32))), (3, .int w3), (0, .ref (a 0)), (1, .int x1), (2, .int x2)]) hx hb dX6_sum_41 hl (k := 4) rfl rfl (by decide) rfl (fun ls hl => ?_)
        refine lv_goto (tgt := 5) hx hb dX6_sum_44 (by decide) ?_
        exact ih x1 x2 w3 (x4 + (1 : Int32)) _ _ _ V (lv_sub hl [2, 3, 4, 1, 0] rfl) h
      · have h := if_nn c2 h
        refine lv_aload_n hx hb dX6_sum_23 rfl (lv_at hl 0 rfl) ?_
        refine va_get (C := RX6) (T := TX6) (N := 24) (ci := 5) hx hb hts igX6 hown C.1 V.1 0 rfl rfl 5 (by decide) (hts _ kt_608) (fun _ h => h) rfl dX6_sum_24 ?_
        refine lv_bipush (v := (32 : Int32)) hx hb dX6_sum_27 (by decide) ?_
        refine lv_iload_n hx hb dX6_sum_29 rfl (lv_at hl 2 rfl) ?_
        refine lv_imul hx hb dX6_sum_30 ?_
        refine lv_iload hx hb dX6_sum_31 (lv_at hl 4 rfl) ?_
        refine lv_iadd hx hb dX6_sum_33 ?_
        obtain ⟨i4, h⟩ := ck_e h
        refine va_iald hx hb C.1 V.1 5 0 rfl rfl i4 dX6_sum_34 ?_
        refine lv_goto (tgt := 39) hx hb dX6_sum_35 (by decide) ?_
        refine lv_iadd hx hb dX6_sum_39 ?_
        obtain ⟨w5, ew5, h⟩ := gl_e h
        refine gw_nmi ew5 ?_
        refine lv_istore_n (lv' := [(3, .int w5), (0, .ref (a 0)), (1, .int x1), (2, .int x2), (4, .int x4)]) hx hb dX6_sum_40 rfl hl (by decide) rfl (fun ls hl => ?_)
        refine lv_iinc (v := (x4 + (1 : Int32))) (lv' := [(4, .int (x4 + (1 : Int32))), (3, .int w5), (0, .ref (a 0)), (1, .int x1), (2, .int x2)]) hx hb dX6_sum_41 hl (k := 4) rfl rfl (by decide) rfl (fun ls hl => ?_)
        refine lv_goto (tgt := 5) hx hb dX6_sum_44 (by decide) ?_
        exact ih x1 x2 w5 (x4 + (1 : Int32)) _ _ _ V (lv_sub hl [2, 3, 4, 1, 0] rfl) h
set_option maxHeartbeats 4000000 in
theorem mX6_sum {l : Launch} {D : va_G} {a : Nat → Nat} {cA : ClassId} {sz : Nat} {u : g_S} {p1 : Int32} {p2 : Int32} {rv : Int32} (h : fm_sum u p1 p2 = some rv) : gw_Mi D vwCl [(cA, .int)] (mdA a) gY (mdW a cA) l yX6_sum wxX6_sum rmX6_sum sz u [.ref (a 0), .int p1, .int p2] rv u := by
  refine gw_Mof (Qc := fun z => va_Qi (gw_Pi rv u) (gw_W D vwCl (mdW a cA)) (rg (mdA a) z)) (cc := cX6_sum) (maxL := 5) (ret := (some .int)) (by decide) rfl ?_
  intro p e s m below meth c B C V
  obtain ⟨hx, hb, hml, hown, hts, hr, hlk⟩ := id B
  have hl := lv_entry ([.ref (a 0), .int p1, .int p2]) (n := 5) (Nat.le_of_ble_eq_true rfl)
  rw [lg_entry_eq]
  generalize (lg_sl ([.ref (a 0), .int p1, .int p2]) ++ List.replicate (5 - (lg_sl ([.ref (a 0), .int p1, .int p2])).length) Slot.unset).toArray = ls at hl ⊢
  have hl : lv_has ls 5 [(0, .ref (a 0)), (1, .int p1), (2, .int p2)] := hl
  unfold fm_sum at h
  refine lv_iconst (v := (0 : Int32)) hx hb dX6_sum_0 (by decide) ?_
  refine lv_istore_n (lv' := [(3, .int (0 : Int32)), (0, .ref (a 0)), (1, .int p1), (2, .int p2)]) hx hb dX6_sum_1 rfl hl (by decide) rfl (fun ls hl => ?_)
  refine lv_iconst (v := (0 : Int32)) hx hb dX6_sum_2 (by decide) ?_
  refine lv_istore (lv' := [(4, .int (0 : Int32)), (3, .int (0 : Int32)), (0, .ref (a 0)), (1, .int p1), (2, .int p2)]) hx hb dX6_sum_3 hl (by decide) rfl (fun ls hl => ?_)
  exact LX6_sum_5 B C 200 p1 p2 (0 : Int32) (0 : Int32) _ _ _ V (lv_sub hl [2, 3, 4, 1, 0] rfl) h
set_option maxHeartbeats 4000000 in
theorem mX6_isEnough {l : Launch} {D : va_G} {a : Nat → Nat} {cA : ClassId} {sz : Nat} {u : g_S} {p1 : Int32} {p2 : Int32} {p3 : Int32} {rv : Int32} (h : fm_isEnough u p1 p2 p3 = some rv) : gw_Mi D vwCl [(cA, .int)] (mdA a) gY (mdW a cA) l yX6_isEnough wxX6_isEnough rmX6_isEnough sz u [.ref (a 0), .int p1, .int p2, .int p3] rv u := by
  refine gw_Mof (Qc := fun z => va_Qi (gw_Pi rv u) (gw_W D vwCl (mdW a cA)) (rg (mdA a) z)) (cc := cX6_isEnough) (maxL := 4) (ret := (some .boolean)) (by decide) rfl ?_
  intro p e s m below meth c B C V
  obtain ⟨hx, hb, hml, hown, hts, hr, hlk⟩ := id B
  have hl := lv_entry ([.ref (a 0), .int p1, .int p2, .int p3]) (n := 4) (Nat.le_of_ble_eq_true rfl)
  rw [lg_entry_eq]
  generalize (lg_sl ([.ref (a 0), .int p1, .int p2, .int p3]) ++ List.replicate (4 - (lg_sl ([.ref (a 0), .int p1, .int p2, .int p3])).length) Slot.unset).toArray = ls at hl ⊢
  have hl : lv_has ls 4 [(0, .ref (a 0)), (1, .int p1), (2, .int p2), (3, .int p3)] := hl
  unfold fm_isEnough at h
  refine lv_aload_n hx hb dX6_isEnough_0 rfl (lv_at hl 0 rfl) ?_
  refine lv_iload_n hx hb dX6_isEnough_1 rfl (lv_at hl 1 rfl) ?_
  refine lv_iload_n hx hb dX6_isEnough_2 rfl (lv_at hl 2 rfl) ?_
  refine lv_iand hx hb dX6_isEnough_3 ?_
  refine lv_iload_n hx hb dX6_isEnough_4 rfl (lv_at hl 3 rfl) ?_
  obtain ⟨v1, hv1, h⟩ := bi_e h
  refine gw_ki V (va_runV (As := [.int (p1 &&& p2), .int p3]) (rest := []) ⟨hx, hb, hml, hown, hts⟩ (mX6_sum (D := D) (a := a) (cA := cA) (u := u) hv1) (cwV 2 hts gmdX6_100 rfl rfl rfl (by decide +kernel) ⟨Nat.le_of_ble_eq_true rfl, Nat.le_of_ble_eq_true rfl⟩) (gw_preV (q0 := 0) (ci := 5) gY_ok C V [.int (p1 &&& p2), .int p3] rfl rfl) rfl rfl hl.1 rfl (lv_room (Nat.le_of_ble_eq_true rfl)) dX6_isEnough_5 ⟨Nat.zero_le _, Nat.zero_le _⟩) (fun H locs V => ?_)
  refine lv_aload_n hx hb dX6_isEnough_8 rfl (lv_at hl 0 rfl) ?_
  refine va_get (C := RX6) (T := TX6) (N := 24) (ci := 5) hx hb hts igX6 hown C.1 V.1 0 rfl rfl 4 (by decide) (hts _ kt_607) (fun _ h => h) rfl dX6_isEnough_9 ?_
  refine lv_iload_n hx hb dX6_isEnough_12 rfl (lv_at hl 3 rfl) ?_
  obtain ⟨i2, h⟩ := ck_e h
  refine va_iald hx hb C.1 V.1 4 0 rfl rfl i2 dX6_isEnough_13 ?_
  refine lv_imul hx hb dX6_isEnough_14 ?_
  refine lv_aload_n hx hb dX6_isEnough_15 rfl (lv_at hl 0 rfl) ?_
  refine va_get (C := RX6) (T := TX6) (N := 24) (ci := 5) hx hb hts igX6 hown C.1 V.1 0 rfl rfl 3 (by decide) (hts _ kt_606) (fun _ h => h) rfl dX6_isEnough_16 ?_
  refine lv_iload_n hx hb dX6_isEnough_19 rfl (lv_at hl 3 rfl) ?_
  obtain ⟨i3, h⟩ := ck_e h
  refine va_iald hx hb C.1 V.1 3 0 rfl rfl i3 dX6_isEnough_20 ?_
  refine lv_aload_n hx hb dX6_isEnough_21 rfl (lv_at hl 0 rfl) ?_
  refine lv_iload_n hx hb dX6_isEnough_22 rfl (lv_at hl 1 rfl) ?_
  refine lv_iload_n hx hb dX6_isEnough_23 rfl (lv_at hl 2 rfl) ?_
  refine lv_ior hx hb dX6_isEnough_24 ?_
  refine lv_iload_n hx hb dX6_isEnough_25 rfl (lv_at hl 3 rfl) ?_
  obtain ⟨v4, hv4, h⟩ := bi_e h
  refine gw_ki V (va_runV (As := [.int (p1 ||| p2), .int p3]) (rest := [.int (u.2 2 p3.toNatClampNeg), .int (v1 * (u.2 3 p3.toNatClampNeg))]) ⟨hx, hb, hml, hown, hts⟩ (mX6_sum (D := D) (a := a) (cA := cA) (u := u) hv4) (cwV 2 hts gmdX6_100 rfl rfl rfl (by decide +kernel) ⟨Nat.le_of_ble_eq_true rfl, Nat.le_of_ble_eq_true rfl⟩) (gw_preV (q0 := 0) (ci := 5) gY_ok C V [.int (p1 ||| p2), .int p3] rfl rfl) rfl rfl hl.1 rfl (lv_room (Nat.le_of_ble_eq_true rfl)) dX6_isEnough_26 ⟨Nat.zero_le _, Nat.zero_le _⟩) (fun H locs V => ?_)
  refine lv_imul hx hb dX6_isEnough_29 ?_
  refine lv_icmp_lt (tgt := 37) hx hb dX6_isEnough_30 (by decide) (fun c5 => ?_) (fun c5 => ?_)
  · have h := if_t c5 h
    refine lv_iconst (v := (0 : Int32)) hx hb dX6_isEnough_37 (by decide) ?_
    exact gw_reti hx hb hr (nar_z (Or.inl rfl)) hlk V (Option.some.inj h) rfl dX6_isEnough_38
  · have h := if_f c5 h
    refine lv_iconst (v := (1 : Int32)) hx hb dX6_isEnough_33 (by decide) ?_
    refine lv_goto (tgt := 38) hx hb dX6_isEnough_34 (by decide) ?_
    exact gw_reti hx hb hr (nar_z (Or.inr rfl)) hlk V (Option.some.inj h) rfl dX6_isEnough_38
set_option maxHeartbeats 4000000 in
theorem LX6_meets_157 {p : Program} {l : Launch} {e : Env} {s : State} {m : MethodId} {below : List Frame} {meth : Method} {c : Code} {args : Array Value} {D : va_G} {a : Nat → Nat} {cA : ClassId} (B : gw_B p s m args meth c cX6_meets 12 (some .int) RX6 gT) (C : gw_C D vwCl [(cA, .int)] (mdA a) gY s) {rv : Int32} {u : g_S} : ∀ (x1 : Int32) (x2 : Int32) (x4 : Int32) (x6 : Int32) (H : Heap) (locs : List Loc) (ls : Array Slot), gw_V D vwCl (mdA a) (mdW a cA) s u H locs → lv_has ls 12 [(0, .ref (a 0)), (1, .int x1), (2, .int x2), (4, .int x4), (6, .int x6)] → fm_meets_157 u x1 x2 x4 x6 = some rv → W p l e rmX6_meets s m args below meth c H locs 0 0 (gw_Ei D vwCl (mdA a) (mdW a cA) below args s rv u) (F0 m 157 ls []) := by
  obtain ⟨hx, hb, hml, hown, hts, hr, hlk⟩ := id B
  intro x1 x2 x4 x6 H locs ls V hl h
  unfold fm_meets_157 at h
  refine lv_iload hx hb dX6_meets_157 (lv_at hl 4 rfl) ?_
  refine lv_if_eq (tgt := 182) hx hb dX6_meets_159 (by decide) (fun c1 => ?_) (fun c1 => ?_)
  · have h := if_t c1 h
    refine lv_iconst (v := (0 : Int32)) hx hb dX6_meets_182 (by decide) ?_
    exact gw_reti hx hb hr rfl hlk V (Option.some.inj h) rfl dX6_meets_183
  · have h := if_f c1 h
    refine lv_aload_n hx hb dX6_meets_162 rfl (lv_at hl 0 rfl) ?_
    refine lv_aload_n hx hb dX6_meets_163 rfl (lv_at hl 0 rfl) ?_
    refine va_get (C := RX6) (T := TX6) (N := 24) (ci := 5) hx hb hts igX6 hown C.1 V.1 0 rfl rfl 13 (by decide) (hts _ kt_616) (fun _ h => h) rfl dX6_meets_164 ?_
    refine lv_iload_n hx hb dX6_meets_167 rfl (lv_at hl 1 rfl) ?_
    obtain ⟨i2, h⟩ := ck_e h
    refine va_iald hx hb C.1 V.1 11 0 rfl rfl i2 dX6_meets_168 ?_
    refine lv_iload hx hb dX6_meets_169 (lv_at hl 3 rfl) ?_
    refine lv_iload_n hx hb dX6_meets_171 rfl (lv_at hl 2 rfl) ?_
    obtain ⟨v3, hv3, h⟩ := bi_e h
    refine gw_ki V (va_runV (As := [.int (u.2 10 x1.toNatClampNeg), .int x4, .int x2]) (rest := []) ⟨hx, hb, hml, hown, hts⟩ (mX6_isEnough (D := D) (a := a) (cA := cA) (u := u) hv3) (cwV 3 hts gmdX6_108 rfl rfl rfl (by decide +kernel) ⟨Nat.le_of_ble_eq_true rfl, Nat.le_of_ble_eq_true rfl⟩) (gw_preV (q0 := 0) (ci := 5) gY_ok C V [.int (u.2 10 x1.toNatClampNeg), .int x4, .int x2] rfl rfl) rfl rfl hl.1 rfl (lv_room (Nat.le_of_ble_eq_true rfl)) dX6_meets_172 ⟨Nat.zero_le _, Nat.zero_le _⟩) (fun H locs V => ?_)
    refine lv_if_eq (tgt := 182) hx hb dX6_meets_175 (by decide) (fun c4 => ?_) (fun c4 => ?_)
    · have h := if_t c4 h
      refine lv_iconst (v := (0 : Int32)) hx hb dX6_meets_182 (by decide) ?_
      exact gw_reti hx hb hr rfl hlk V (Option.some.inj h) rfl dX6_meets_183
    · have h := if_f c4 h
      refine lv_iconst (v := (2 : Int32)) hx hb dX6_meets_178 (by decide) ?_
      refine lv_goto (tgt := 183) hx hb dX6_meets_179 (by decide) ?_
      exact gw_reti hx hb hr rfl hlk V (Option.some.inj h) rfl dX6_meets_183
set_option maxHeartbeats 4000000 in
theorem LX6_meets_144 {p : Program} {l : Launch} {e : Env} {s : State} {m : MethodId} {below : List Frame} {meth : Method} {c : Code} {args : Array Value} {D : va_G} {a : Nat → Nat} {cA : ClassId} (B : gw_B p s m args meth c cX6_meets 12 (some .int) RX6 gT) (C : gw_C D vwCl [(cA, .int)] (mdA a) gY s) {rv : Int32} {u : g_S} : ∀ (y0 : Int32) (H : Heap) (locs : List Loc) (ls : Array Slot), gw_V D vwCl (mdA a) (mdW a cA) s u H locs → lv_has ls 12 [] → fm_meets_144 u y0 = some rv → W p l e rmX6_meets s m args below meth c H locs 0 0 (gw_Ei D vwCl (mdA a) (mdW a cA) below args s rv u) (F0 m 144 ls [.int y0]) := by
  obtain ⟨hx, hb, hml, hown, hts, hr, hlk⟩ := id B
  intro y0 H locs ls V hl h
  unfold fm_meets_144 at h
  refine lv_istore (lv' := [(11, .int y0)]) hx hb dX6_meets_144 hl (by decide) rfl (fun ls hl => ?_)
  refine lv_iload hx hb dX6_meets_146 (lv_at hl 0 rfl) ?_
  refine lv_if_eq (tgt := 155) hx hb dX6_meets_148 (by decide) (fun c1 => ?_) (fun c1 => ?_)
  · have h := if_t c1 h
    refine lv_iconst (v := (0 : Int32)) hx hb dX6_meets_155 (by decide) ?_
    exact gw_reti hx hb hr rfl hlk V (Option.some.inj h) rfl dX6_meets_156
  · have h := if_f c1 h
    refine lv_iconst (v := (1 : Int32)) hx hb dX6_meets_151 (by decide) ?_
    refine lv_goto (tgt := 156) hx hb dX6_meets_152 (by decide) ?_
    exact gw_reti hx hb hr rfl hlk V (Option.some.inj h) rfl dX6_meets_156
set_option maxHeartbeats 4000000 in
theorem LX6_meets_46 {p : Program} {l : Launch} {e : Env} {s : State} {m : MethodId} {below : List Frame} {meth : Method} {c : Code} {args : Array Value} {D : va_G} {a : Nat → Nat} {cA : ClassId} (B : gw_B p s m args meth c cX6_meets 12 (some .int) RX6 gT) (C : gw_C D vwCl [(cA, .int)] (mdA a) gY s) {rv : Int32} {u : g_S} : ∀ (x1 : Int32) (x2 : Int32) (x3 : Int32) (x4 : Int32) (y0 : Int32) (H : Heap) (locs : List Loc) (ls : Array Slot), gw_V D vwCl (mdA a) (mdW a cA) s u H locs → lv_has ls 12 [(0, .ref (a 0)), (1, .int x1), (2, .int x2), (3, .int x3), (4, .int x4)] → fm_meets_46 u x1 x2 x3 x4 y0 = some rv → W p l e rmX6_meets s m args below meth c H locs 0 0 (gw_Ei D vwCl (mdA a) (mdW a cA) below args s rv u) (F0 m 46 ls [.int y0]) := by
  obtain ⟨hx, hb, hml, hown, hts, hr, hlk⟩ := id B
  intro x1 x2 x3 x4 y0 H locs ls V hl h
  unfold fm_meets_46 at h
  refine lv_istore (lv' := [(6, .int y0), (0, .ref (a 0)), (1, .int x1), (2, .int x2), (3, .int x3), (4, .int x4)]) hx hb dX6_meets_46 hl (by decide) rfl (fun ls hl => ?_)
  refine lv_aload_n hx hb dX6_meets_48 rfl (lv_at hl 1 rfl) ?_
  refine va_get (C := RX6) (T := TX6) (N := 24) (ci := 5) hx hb hts igX6 hown C.1 V.1 0 rfl rfl 12 (by decide) (hts _ kt_615) (fun _ h => h) rfl dX6_meets_49 ?_
  refine lv_iload_n hx hb dX6_meets_52 rfl (lv_at hl 2 rfl) ?_
  obtain ⟨i1, h⟩ := ck_e h
  refine va_iald hx hb C.1 V.1 10 0 rfl rfl i1 dX6_meets_53 ?_
  refine lv_if_lt (tgt := 157) hx hb dX6_meets_54 (by decide) (fun c2 => ?_) (fun c2 => ?_)
  · have h := if_t c2 h
    exact LX6_meets_157 B C x1 x2 x4 y0 _ _ _ V (lv_sub hl [1, 2, 3, 5, 0] rfl) h
  · have h := if_f c2 h
    refine lv_iload_n hx hb dX6_meets_57 rfl (lv_at hl 4 rfl) ?_
    refine lv_if_lt (tgt := 157) hx hb dX6_meets_58 (by decide) (fun c3 => ?_) (fun c3 => ?_)
    · have h := if_t c3 h
      exact LX6_meets_157 B C x1 x2 x4 y0 _ _ _ V (lv_sub hl [1, 2, 3, 5, 0] rfl) h
    · have h := if_f c3 h
      refine lv_aload_n hx hb dX6_meets_61 rfl (lv_at hl 1 rfl) ?_
      refine va_get (C := RX6) (T := TX6) (N := 24) (ci := 5) hx hb hts igX6 hown C.1 V.1 0 rfl rfl 12 (by decide) (hts _ kt_615) (fun _ h => h) rfl dX6_meets_62 ?_
      refine lv_iload_n hx hb dX6_meets_65 rfl (lv_at hl 2 rfl) ?_
      obtain ⟨i4, h⟩ := ck_e h
      refine va_iald hx hb C.1 V.1 10 0 rfl rfl i4 dX6_meets_66 ?_
      refine lv_iload_n hx hb dX6_meets_67 rfl (lv_at hl 4 rfl) ?_
      obtain ⟨v5, hv5, h⟩ := bi_e h
      refine gw_kl V (va_runS (As := [.int (u.2 9 x1.toNatClampNeg), .int x3]) (rest := []) ⟨hx, hb, hml, hown, hts⟩ (mX6_squareOf (D := D) (a := a) (cA := cA) (u := u) hv5) (cwS 2 hts gmdX6_104 rfl rfl rfl (by decide +kernel) ⟨Nat.le_of_ble_eq_true rfl, Nat.le_of_ble_eq_true rfl⟩) (gw_preS gY_ok C V [.int (u.2 9 x1.toNatClampNeg), .int x3]) rfl rfl hl.1 rfl (lv_room (Nat.le_of_ble_eq_true rfl)) dX6_meets_68 ⟨Nat.zero_le _, Nat.zero_le _⟩) (fun H locs V => ?_)
      refine lv_lstore (lv' := [(7, .long v5), (6, .int y0), (0, .ref (a 0)), (1, .int x1), (2, .int x2), (3, .int x3), (4, .int x4)]) hx hb dX6_meets_71 hl (by decide) rfl (fun ls hl => ?_)
      refine lv_aload_n hx hb dX6_meets_73 rfl (lv_at hl 2 rfl) ?_
      refine va_get (C := RX6) (T := TX6) (N := 24) (ci := 5) hx hb hts igX6 hown C.1 V.1 0 rfl rfl 1 (by decide) (hts _ kt_604) (fun _ h => h) rfl dX6_meets_74 ?_
      refine lv_iload_n hx hb dX6_meets_77 rfl (lv_at hl 4 rfl) ?_
      obtain ⟨i6, h⟩ := ck_e h
      refine va_iald hx hb C.1 V.1 1 0 rfl rfl i6 dX6_meets_78 ?_
      refine lv_i2l (v := (Int32.toInt64 (u.2 0 x2.toNatClampNeg))) hx hb dX6_meets_79 rfl ?_
      refine lv_aload_n hx hb dX6_meets_80 rfl (lv_at hl 2 rfl) ?_
      refine va_get (C := RX6) (T := TX6) (N := 24) (ci := 5) hx hb hts igX6 hown C.1 V.1 0 rfl rfl 1 (by decide) (hts _ kt_604) (fun _ h => h) rfl dX6_meets_81 ?_
      refine lv_iload_n hx hb dX6_meets_84 rfl (lv_at hl 4 rfl) ?_
      obtain ⟨i7, h⟩ := ck_e h
      refine va_iald hx hb C.1 V.1 1 0 rfl rfl i7 dX6_meets_85 ?_
      refine lv_i2l (v := (Int32.toInt64 (u.2 0 x2.toNatClampNeg))) hx hb dX6_meets_86 rfl ?_
      refine lv_lmul hx hb dX6_meets_87 ?_
      obtain ⟨w8, ew8, h⟩ := gl_e h
      refine gw_nml ew8 ?_
      refine lv_lstore (lv' := [(9, .long w8), (7, .long v5), (6, .int y0), (0, .ref (a 0)), (1, .int x1), (2, .int x2), (3, .int x3), (4, .int x4)]) hx hb dX6_meets_88 hl (by decide) rfl (fun ls hl => ?_)
      refine lv_iload hx hb dX6_meets_90 (lv_at hl 2 rfl) ?_
      refine lv_if_eq (tgt := 127) hx hb dX6_meets_92 (by decide) (fun c9 => ?_) (fun c9 => ?_)
      · have h := if_t c9 h
        refine lv_ldc2 (v := (4 : Int64)) hx hb hown (hts _ kt_772) dX6_meets_127 ?_
        refine lv_lload hx hb dX6_meets_130 (lv_at hl 1 rfl) ?_
        refine lv_lmul hx hb dX6_meets_132 ?_
        refine lv_lload hx hb dX6_meets_133 (lv_at hl 0 rfl) ?_
        refine W.lcmp hx hb dX6_meets_135 ?_
        refine lv_if_gt (tgt := 143) hx hb dX6_meets_136 (by decide) (fun c10 => ?_) (fun c10 => ?_)
        · have h := if_t c10 h
          refine lv_iconst (v := (0 : Int32)) hx hb dX6_meets_143 (by decide) ?_
          exact LX6_meets_144 B C (0 : Int32) _ _ _ V (lv_sub hl [] rfl) h
        · have h := if_f c10 h
          refine lv_iconst (v := (1 : Int32)) hx hb dX6_meets_139 (by decide) ?_
          refine lv_goto (tgt := 144) hx hb dX6_meets_140 (by decide) ?_
          exact LX6_meets_144 B C (1 : Int32) _ _ _ V (lv_sub hl [] rfl) h
      · have h := if_f c9 h
        refine lv_lload hx hb dX6_meets_95 (lv_at hl 1 rfl) ?_
        refine lv_lload hx hb dX6_meets_97 (lv_at hl 0 rfl) ?_
        refine W.lcmp hx hb dX6_meets_99 ?_
        refine lv_if_gt (tgt := 123) hx hb dX6_meets_100 (by decide) (fun c11 => ?_) (fun c11 => ?_)
        · have h := if_t c11 h
          refine lv_iconst (v := (0 : Int32)) hx hb dX6_meets_123 (by decide) ?_
          refine lv_goto (tgt := 144) hx hb dX6_meets_124 (by decide) ?_
          exact LX6_meets_144 B C (0 : Int32) _ _ _ V (lv_sub hl [] rfl) h
        · have h := if_f c11 h
          refine lv_aload_n hx hb dX6_meets_103 rfl (lv_at hl 3 rfl) ?_
          refine lv_aload_n hx hb dX6_meets_104 rfl (lv_at hl 3 rfl) ?_
          refine va_get (C := RX6) (T := TX6) (N := 24) (ci := 5) hx hb hts igX6 hown C.1 V.1 0 rfl rfl 13 (by decide) (hts _ kt_616) (fun _ h => h) rfl dX6_meets_105 ?_
          refine lv_iload_n hx hb dX6_meets_108 rfl (lv_at hl 4 rfl) ?_
          obtain ⟨i12, h⟩ := ck_e h
          refine va_iald hx hb C.1 V.1 11 0 rfl rfl i12 dX6_meets_109 ?_
          refine lv_iload hx hb dX6_meets_110 (lv_at hl 7 rfl) ?_
          refine lv_iload_n hx hb dX6_meets_112 rfl (lv_at hl 5 rfl) ?_
          obtain ⟨v13, hv13, h⟩ := bi_e h
          refine gw_ki V (va_runV (As := [.int (u.2 10 x1.toNatClampNeg), .int x4, .int x2]) (rest := []) ⟨hx, hb, hml, hown, hts⟩ (mX6_isEnough (D := D) (a := a) (cA := cA) (u := u) hv13) (cwV 3 hts gmdX6_108 rfl rfl rfl (by decide +kernel) ⟨Nat.le_of_ble_eq_true rfl, Nat.le_of_ble_eq_true rfl⟩) (gw_preV (q0 := 0) (ci := 5) gY_ok C V [.int (u.2 10 x1.toNatClampNeg), .int x4, .int x2] rfl rfl) rfl rfl hl.1 rfl (lv_room (Nat.le_of_ble_eq_true rfl)) dX6_meets_113 ⟨Nat.zero_le _, Nat.zero_le _⟩) (fun H locs V => ?_)
          refine lv_if_eq (tgt := 123) hx hb dX6_meets_116 (by decide) (fun c14 => ?_) (fun c14 => ?_)
          · have h := if_t c14 h
            refine lv_iconst (v := (0 : Int32)) hx hb dX6_meets_123 (by decide) ?_
            refine lv_goto (tgt := 144) hx hb dX6_meets_124 (by decide) ?_
            exact LX6_meets_144 B C (0 : Int32) _ _ _ V (lv_sub hl [] rfl) h
          · have h := if_f c14 h
            refine lv_iconst (v := (1 : Int32)) hx hb dX6_meets_119 (by decide) ?_
            refine lv_goto (tgt := 144) hx hb dX6_meets_120 (by decide) ?_
            exact LX6_meets_144 B C (1 : Int32) _ _ _ V (lv_sub hl [] rfl) h
set_option maxHeartbeats 4000000 in
theorem mX6_meets {l : Launch} {D : va_G} {a : Nat → Nat} {cA : ClassId} {sz : Nat} {u : g_S} {p1 : Int32} {p2 : Int32} {p3 : Int32} {p4 : Int32} {p5 : Int32} {rv : Int32} (h : fm_meets u p1 p2 p3 p4 p5 = some rv) : gw_Mi D vwCl [(cA, .int)] (mdA a) gY (mdW a cA) l yX6_meets wxX6_meets rmX6_meets sz u [.ref (a 0), .int p1, .int p2, .int p3, .int p4, .int p5] rv u := by
  refine gw_Mof (Qc := fun z => va_Qi (gw_Pi rv u) (gw_W D vwCl (mdW a cA)) (rg (mdA a) z)) (cc := cX6_meets) (maxL := 12) (ret := (some .int)) (by decide) rfl ?_
  intro p e s m below meth c B C V
  obtain ⟨hx, hb, hml, hown, hts, hr, hlk⟩ := id B
  have hl := lv_entry ([.ref (a 0), .int p1, .int p2, .int p3, .int p4, .int p5]) (n := 12) (Nat.le_of_ble_eq_true rfl)
  rw [lg_entry_eq]
  generalize (lg_sl ([.ref (a 0), .int p1, .int p2, .int p3, .int p4, .int p5]) ++ List.replicate (12 - (lg_sl ([.ref (a 0), .int p1, .int p2, .int p3, .int p4, .int p5])).length) Slot.unset).toArray = ls at hl ⊢
  have hl : lv_has ls 12 [(0, .ref (a 0)), (1, .int p1), (2, .int p2), (3, .int p3), (4, .int p4), (5, .int p5)] := hl
  unfold fm_meets at h
  refine lv_iload hx hb dX6_meets_0 (lv_at hl 5 rfl) ?_
  refine lv_i2l (v := (Int32.toInt64 p5)) hx hb dX6_meets_2 rfl ?_
  refine lv_aload_n hx hb dX6_meets_3 rfl (lv_at hl 0 rfl) ?_
  refine va_get (C := RX6) (T := TX6) (N := 24) (ci := 5) hx hb hts igX6 hown C.1 V.1 0 rfl rfl 14 (by decide) (hts _ kt_617) (fun _ h => h) rfl dX6_meets_4 ?_
  refine lv_iload_n hx hb dX6_meets_7 rfl (lv_at hl 1 rfl) ?_
  obtain ⟨i1, h⟩ := ck_e h
  refine va_iald hx hb C.1 V.1 12 0 rfl rfl i1 dX6_meets_8 ?_
  refine lv_i2l (v := (Int32.toInt64 (u.2 11 p1.toNatClampNeg))) hx hb dX6_meets_9 rfl ?_
  refine lv_lsub hx hb dX6_meets_10 ?_
  refine lv_aload_n hx hb dX6_meets_11 rfl (lv_at hl 0 rfl) ?_
  refine va_get (C := RX6) (T := TX6) (N := 24) (ci := 5) hx hb hts igX6 hown C.1 V.1 0 rfl rfl 2 (by decide) (hts _ kt_605) (fun _ h => h) rfl dX6_meets_12 ?_
  refine lv_iload_n hx hb dX6_meets_15 rfl (lv_at hl 2 rfl) ?_
  obtain ⟨i2, h⟩ := ck_e h
  refine va_iald hx hb C.1 V.1 2 0 rfl rfl i2 dX6_meets_16 ?_
  refine lv_i2l (v := (Int32.toInt64 (u.2 1 p2.toNatClampNeg))) hx hb dX6_meets_17 rfl ?_
  refine W.lcmp hx hb dX6_meets_18 ?_
  refine lv_if_le (tgt := 24) hx hb dX6_meets_19 (by decide) (fun c3 => ?_) (fun c3 => ?_)
  · have h := if_t c3 h
    refine lv_aload_n hx hb dX6_meets_24 rfl (lv_at hl 0 rfl) ?_
    refine lv_aload_n hx hb dX6_meets_25 rfl (lv_at hl 0 rfl) ?_
    refine va_get (C := RX6) (T := TX6) (N := 24) (ci := 5) hx hb hts igX6 hown C.1 V.1 0 rfl rfl 13 (by decide) (hts _ kt_616) (fun _ h => h) rfl dX6_meets_26 ?_
    refine lv_iload_n hx hb dX6_meets_29 rfl (lv_at hl 1 rfl) ?_
    obtain ⟨i4, h⟩ := ck_e h
    refine va_iald hx hb C.1 V.1 11 0 rfl rfl i4 dX6_meets_30 ?_
    refine lv_iload hx hb dX6_meets_31 (lv_at hl 4 rfl) ?_
    refine lv_ior hx hb dX6_meets_33 ?_
    refine lv_iload_n hx hb dX6_meets_34 rfl (lv_at hl 2 rfl) ?_
    obtain ⟨v5, hv5, h⟩ := bi_e h
    refine gw_ki V (va_runV (As := [.int ((u.2 10 p1.toNatClampNeg) ||| p4), .int p2]) (rest := []) ⟨hx, hb, hml, hown, hts⟩ (mX6_sum (D := D) (a := a) (cA := cA) (u := u) hv5) (cwV 2 hts gmdX6_100 rfl rfl rfl (by decide +kernel) ⟨Nat.le_of_ble_eq_true rfl, Nat.le_of_ble_eq_true rfl⟩) (gw_preV (q0 := 0) (ci := 5) gY_ok C V [.int ((u.2 10 p1.toNatClampNeg) ||| p4), .int p2] rfl rfl) rfl rfl hl.1 rfl (lv_room (Nat.le_of_ble_eq_true rfl)) dX6_meets_35 ⟨Nat.zero_le _, Nat.zero_le _⟩) (fun H locs V => ?_)
    refine lv_if_le (tgt := 45) hx hb dX6_meets_38 (by decide) (fun c6 => ?_) (fun c6 => ?_)
    · have h := if_t c6 h
      refine lv_iconst (v := (0 : Int32)) hx hb dX6_meets_45 (by decide) ?_
      exact LX6_meets_46 B C p1 p2 p3 p4 (0 : Int32) _ _ _ V (lv_sub hl [0, 1, 2, 3, 4] rfl) h
    · have h := if_f c6 h
      refine lv_iconst (v := (1 : Int32)) hx hb dX6_meets_41 (by decide) ?_
      refine lv_goto (tgt := 46) hx hb dX6_meets_42 (by decide) ?_
      exact LX6_meets_46 B C p1 p2 p3 p4 (1 : Int32) _ _ _ V (lv_sub hl [0, 1, 2, 3, 4] rfl) h
  · have h := if_f c3 h
    refine lv_iconst (v := (0 : Int32)) hx hb dX6_meets_22 (by decide) ?_
    exact gw_reti hx hb hr rfl hlk V (Option.some.inj h) rfl dX6_meets_23
