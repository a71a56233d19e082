set_option maxHeartbeats 4000000 in
theorem LX6_eventAt_24 {p : Program} {l : Launch} {e : Env} {s : State} {m : MethodId} {below : List Frame} {meth : Method} {c : Code} {args : Array Value} {D : va_G} {a : Nat → Nat} {cA : ClassId} (B : gw_B p s m args meth c cX6_eventAt 4 (some .int) RX6 gT) (C : gw_C D vwCl [(cA, .int)] (mdA a) gY s) {rv : Int32 × g_S} : ∀ (x1 : Int32) (x2 : Int32) (y1 : Int32) (u : g_S) (H : Heap) (locs : List Loc) (ls : Array Slot), gw_V D vwCl (mdA a) (mdW a cA) s u H locs → lv_has ls 4 [(0, .ref (a 0)), (1, .int x1), (2, .int x2)] → fm_eventAt_24 u x1 x2 y1 = some rv → W p l e rmX6_eventAt s m args below meth c H locs 0 0 (gw_Ei D vwCl (mdA a) (mdW a cA) below args s rv.1 rv.2) (F0 m 24 ls [.int y1, .ref (a 0)]) := by
  obtain ⟨hx, hb, hml, hown, hts, hr, hlk⟩ := id B
  intro x1 x2 y1 u H locs ls V hl h
  unfold fm_eventAt_24 at h
  refine lv_iconst (v := (0 : Int32)) hx hb dX6_eventAt_24 (by decide) ?_
  refine lv_iconst (v := (0 : Int32)) hx hb dX6_eventAt_25 (by decide) ?_
  obtain ⟨v1, hv1, h⟩ := bi_e h
  refine gw_ki V (va_runV (As := [.int y1, .int (0 : Int32), .int (0 : Int32)]) (rest := []) ⟨hx, hb, hml, hown, hts⟩ (mX6_throwing (D := D) (a := a) (cA := cA) (u := u) hv1) (cwV 3 hts gmdX6_90 rfl rfl rfl (by decide +kernel) ⟨Nat.le_of_ble_eq_true rfl, Nat.le_of_ble_eq_true rfl⟩) (gw_preV (q0 := 0) (ci := 5) gY_ok C V [.int y1, .int (0 : Int32), .int (0 : Int32)] rfl rfl) rfl rfl hl.1 rfl (lv_room (Nat.le_of_ble_eq_true rfl)) dX6_eventAt_26 ⟨Nat.zero_le _, Nat.zero_le _⟩) (fun H locs V => ?_)
  refine lv_if_eq (tgt := 34) hx hb dX6_eventAt_29 (by decide) (fun c2 => ?_) (fun c2 => ?_)
  · have h := if_t c2 h
    refine lv_aload_n hx hb dX6_eventAt_34 rfl (lv_at hl 0 rfl) ?_
    refine lv_iload_n hx hb dX6_eventAt_35 rfl (lv_at hl 1 rfl) ?_
    obtain ⟨v3, hv3, h⟩ := bi_e h
    refine gw_ki V (va_runV (As := [.int x1]) (rest := []) ⟨hx, hb, hml, hown, hts⟩ (mX6_firstOf (D := D) (a := a) (cA := cA) (u := v1.2) hv3) (cwV 1 hts gmdX6_124 rfl rfl rfl (by decide +kernel) ⟨Nat.le_of_ble_eq_true rfl, Nat.le_of_ble_eq_true rfl⟩) (gw_preV (q0 := 0) (ci := 5) gY_ok C V [.int x1] rfl rfl) rfl rfl hl.1 rfl (lv_room (Nat.le_of_ble_eq_true rfl)) dX6_eventAt_36 ⟨Nat.zero_le _, Nat.zero_le _⟩) (fun H locs V => ?_)
    refine lv_istore_n (lv' := [(3, .int v3), (0, .ref (a 0)), (1, .int x1), (2, .int x2)]) hx hb dX6_eventAt_39 rfl hl (by decide) rfl (fun ls hl => ?_)
    refine lv_iload_n hx hb dX6_eventAt_40 rfl (lv_at hl 3 rfl) ?_
    by_cases c4 : x2 = (0 : Int32)
    · have h := if_t c4 h
      refine lv_tableIn (off := 39) (tgt := 80) hx hb dX6_eventAt_41 (by rw [c4]; decide) (by rw [c4]; decide) (by rw [c4]; rfl) (by decide) ?_
      refine lv_aload_n hx hb dX6_eventAt_80 rfl (lv_at hl 1 rfl) ?_
      refine va_get (C := RX6) (T := TX6) (N := 24) (ci := 5) hx hb hts igX6 hown C.1 V.1 0 rfl rfl 19 (by decide) (hts _ kt_622) (fun _ h => h) rfl dX6_eventAt_81 ?_
      refine lv_iload_n hx hb dX6_eventAt_84 rfl (lv_at hl 2 rfl) ?_
      obtain ⟨i5, h⟩ := ck_e h
      refine va_iald hx hb C.1 V.1 17 0 rfl rfl i5 dX6_eventAt_85 ?_
      exact gw_reti hx hb hr rfl hlk V (in2a h) (in2b h) dX6_eventAt_86
    have h := if_f c4 h
    by_cases c6 : x2 = (1 : Int32)
    · have h := if_t c6 h
      refine lv_tableIn (off := 46) (tgt := 87) hx hb dX6_eventAt_41 (by rw [c6]; decide) (by rw [c6]; decide) (by rw [c6]; rfl) (by decide) ?_
      refine lv_aload_n hx hb dX6_eventAt_87 rfl (lv_at hl 1 rfl) ?_
      refine lv_iload_n hx hb dX6_eventAt_88 rfl (lv_at hl 2 rfl) ?_
      obtain ⟨v7, hv7, h⟩ := bi_e h
      refine gw_ki V (va_runV (As := [.int x1]) (rest := []) ⟨hx, hb, hml, hown, hts⟩ (mX6_size (D := D) (a := a) (cA := cA) (u := v1.2) hv7) (cwV 1 hts gmdX6_173 rfl rfl rfl (by decide +kernel) ⟨Nat.le_of_ble_eq_true rfl, Nat.le_of_ble_eq_true rfl⟩) (gw_preV (q0 := 0) (ci := 5) gY_ok C V [.int x1] rfl rfl) rfl rfl hl.1 rfl (lv_room (Nat.le_of_ble_eq_true rfl)) dX6_eventAt_89 ⟨Nat.zero_le _, Nat.zero_le _⟩) (fun H locs V => ?_)
      exact gw_reti hx hb hr rfl hlk V (in2a h) (in2b h) dX6_eventAt_92
    have h := if_f c6 h
    by_cases c8 : x2 = (2 : Int32)
    · have h := if_t c8 h
      refine lv_tableIn (off := 52) (tgt := 93) hx hb dX6_eventAt_41 (by rw [c8]; decide) (by rw [c8]; decide) (by rw [c8]; rfl) (by decide) ?_
      refine lv_iload_n hx hb dX6_eventAt_93 rfl (lv_at hl 0 rfl) ?_
      refine lv_if_ge (tgt := 101) hx hb dX6_eventAt_94 (by decide) (fun c9 => ?_) (fun c9 => ?_)
      · have h := if_t c9 h
        refine lv_aload_n hx hb dX6_eventAt_101 rfl (lv_at hl 1 rfl) ?_
        refine va_get (C := RX6) (T := TX6) (N := 24) (ci := 5) hx hb hts igX6 hown C.1 V.1 0 rfl rfl 11 (by decide) (hts _ kt_614) (fun _ h => h) rfl dX6_eventAt_102 ?_
        refine lv_iload_n hx hb dX6_eventAt_105 rfl (lv_at hl 0 rfl) ?_
        obtain ⟨i10, h⟩ := ck_e h
        refine va_iald hx hb C.1 V.1 9 0 rfl rfl i10 dX6_eventAt_106 ?_
        exact gw_reti hx hb hr rfl hlk V (in2a h) (in2b h) dX6_eventAt_107
      · have h := if_f c9 h
        refine lv_iconst (v := (-1 : Int32)) hx hb dX6_eventAt_97 (by decide) ?_
        refine lv_goto (tgt := 107) hx hb dX6_eventAt_98 (by decide) ?_
        exact gw_reti hx hb hr rfl hlk V (in2a h) (in2b h) dX6_eventAt_107
    have h := if_f c8 h
    by_cases c11 : x2 = (3 : Int32)
    · have h := if_t c11 h
      refine lv_tableIn (off := 67) (tgt := 108) hx hb dX6_eventAt_41 (by rw [c11]; decide) (by rw [c11]; decide) (by rw [c11]; rfl) (by decide) ?_
      refine lv_aload_n hx hb dX6_eventAt_108 rfl (lv_at hl 1 rfl) ?_
      refine lv_iload_n hx hb dX6_eventAt_109 rfl (lv_at hl 2 rfl) ?_
      obtain ⟨v12, hv12, h⟩ := bi_e h
      refine gw_ki V (va_runV (As := [.int x1]) (rest := []) ⟨hx, hb, hml, hown, hts⟩ (mX6_weightOf (D := D) (a := a) (cA := cA) (u := v1.2) hv12) (cwV 1 hts gmdX6_176 rfl rfl rfl (by decide +kernel) ⟨Nat.le_of_ble_eq_true rfl, Nat.le_of_ble_eq_true rfl⟩) (gw_preV (q0 := 0) (ci := 5) gY_ok C V [.int x1] rfl rfl) rfl rfl hl.1 rfl (lv_room (Nat.le_of_ble_eq_true rfl)) dX6_eventAt_110 ⟨Nat.zero_le _, Nat.zero_le _⟩) (fun H locs V => ?_)
      exact gw_reti hx hb hr rfl hlk V (in2a h) (in2b h) dX6_eventAt_113
    have h := if_f c11 h
    by_cases c13 : x2 = (4 : Int32)
    · have h := if_t c13 h
      refine lv_tableIn (off := 73) (tgt := 114) hx hb dX6_eventAt_41 (by rw [c13]; decide) (by rw [c13]; decide) (by rw [c13]; rfl) (by decide) ?_
      refine lv_aload_n hx hb dX6_eventAt_114 rfl (lv_at hl 1 rfl) ?_
      refine lv_iload_n hx hb dX6_eventAt_115 rfl (lv_at hl 2 rfl) ?_
      obtain ⟨v14, hv14, h⟩ := bi_e h
      refine gw_ki V (va_runV (As := [.int x1]) (rest := []) ⟨hx, hb, hml, hown, hts⟩ (mX6_placeOf (D := D) (a := a) (cA := cA) (u := v1.2) hv14) (cwV 1 hts gmdX6_179 rfl rfl rfl (by decide +kernel) ⟨Nat.le_of_ble_eq_true rfl, Nat.le_of_ble_eq_true rfl⟩) (gw_preV (q0 := 0) (ci := 5) gY_ok C V [.int x1] rfl rfl) rfl rfl hl.1 rfl (lv_room (Nat.le_of_ble_eq_true rfl)) dX6_eventAt_116 ⟨Nat.zero_le _, Nat.zero_le _⟩) (fun H locs V => ?_)
      exact gw_reti hx hb hr rfl hlk V (in2a h) (in2b h) dX6_eventAt_119
    have h := if_f c13 h
    by_cases c15 : x2 = (5 : Int32)
    · have h := if_t c15 h
      refine lv_tableIn (off := 79) (tgt := 120) hx hb dX6_eventAt_41 (by rw [c15]; decide) (by rw [c15]; decide) (by rw [c15]; rfl) (by decide) ?_
      refine lv_iload_n hx hb dX6_eventAt_120 rfl (lv_at hl 0 rfl) ?_
      exact gw_reti hx hb hr rfl hlk V (in2a h) (in2b h) dX6_eventAt_121
    have h := if_f c15 h
    refine lv_tableOut (tgt := 122) hx hb dX6_eventAt_41 (by have := lv_neT c4 (a := 0) (by decide); have := lv_neT c6 (a := 1) (by decide); have := lv_neT c8 (a := 2) (by decide); have := lv_neT c11 (a := 3) (by decide); have := lv_neT c13 (a := 4) (by decide); have := lv_neT c15 (a := 5) (by decide); omega) (by decide) ?_
    refine lv_aload_n hx hb dX6_eventAt_122 rfl (lv_at hl 1 rfl) ?_
    refine lv_iload_n hx hb dX6_eventAt_123 rfl (lv_at hl 2 rfl) ?_
    obtain ⟨v16, hv16, h⟩ := bi_e h
    refine gw_ki V (va_runV (As := [.int x1]) (rest := []) ⟨hx, hb, hml, hown, hts⟩ (mX6_latestOf (D := D) (a := a) (cA := cA) (u := v1.2) hv16) (cwV 1 hts gmdX6_182 rfl rfl rfl (by decide +kernel) ⟨Nat.le_of_ble_eq_true rfl, Nat.le_of_ble_eq_true rfl⟩) (gw_preV (q0 := 0) (ci := 5) gY_ok C V [.int x1] rfl rfl) rfl rfl hl.1 rfl (lv_room (Nat.le_of_ble_eq_true rfl)) dX6_eventAt_124 ⟨Nat.zero_le _, Nat.zero_le _⟩) (fun H locs V => ?_)
    exact gw_reti hx hb hr rfl hlk V (in2a h) (in2b h) dX6_eventAt_127
  · have h := if_f c2 h
    refine lv_iconst (v := (0 : Int32)) hx hb dX6_eventAt_32 (by decide) ?_
    exact gw_reti hx hb hr rfl hlk V (in2a h) (in2b h) dX6_eventAt_33
set_option maxHeartbeats 4000000 in
theorem mX6_eventAt {l : Launch} {D : va_G} {a : Nat → Nat} {cA : ClassId} {sz : Nat} {u : g_S} {p1 : Int32} {p2 : Int32} {rv : Int32 × g_S} (h : fm_eventAt u p1 p2 = some rv) : gw_Mi D vwCl [(cA, .int)] (mdA a) gY (mdW a cA) l yX6_eventAt wxX6_eventAt rmX6_eventAt sz u [.ref (a 0), .int p1, .int p2] rv.1 rv.2 := by
  refine gw_Mof (Qc := fun z => va_Qi (gw_Pi rv.1 rv.2) (gw_W D vwCl (mdW a cA)) (rg (mdA a) z)) (cc := cX6_eventAt) (maxL := 4) (ret := (some .int)) (by decide) rfl ?_
  intro p e s m below meth c B C V
  obtain ⟨hx, hb, hml, hown, hts, hr, hlk⟩ := id B
  have hl := lv_entry ([.ref (a 0), .int p1, .int p2]) (n := 4) (Nat.le_of_ble_eq_true rfl)
  rw [lg_entry_eq]
  generalize (lg_sl ([.ref (a 0), .int p1, .int p2]) ++ List.replicate (4 - (lg_sl ([.ref (a 0), .int p1, .int p2])).length) Slot.unset).toArray = ls at hl ⊢
  have hl : lv_has ls 4 [(0, .ref (a 0)), (1, .int p1), (2, .int p2)] := hl
  unfold fm_eventAt at h
  refine lv_aload_n hx hb dX6_eventAt_0 rfl (lv_at hl 0 rfl) ?_
  refine lv_aload_n hx hb dX6_eventAt_1 rfl (lv_at hl 0 rfl) ?_
  refine lv_iload_n hx hb dX6_eventAt_2 rfl (lv_at hl 1 rfl) ?_
  obtain ⟨v1, hv1, h⟩ := bi_e h
  refine gw_ki V (va_runV (As := [.int p1]) (rest := [.ref (a 0)]) ⟨hx, hb, hml, hown, hts⟩ (mX6_isEvent (D := D) (a := a) (cA := cA) (u := u) hv1) (cwV 1 hts gmdX6_170 rfl rfl rfl (by decide +kernel) ⟨Nat.le_of_ble_eq_true rfl, Nat.le_of_ble_eq_true rfl⟩) (gw_preV (q0 := 0) (ci := 5) gY_ok C V [.int p1] rfl rfl) rfl rfl hl.1 rfl (lv_room (Nat.le_of_ble_eq_true rfl)) dX6_eventAt_3 ⟨Nat.zero_le _, Nat.zero_le _⟩) (fun H locs V => ?_)
  refine lv_if_eq (tgt := 19) hx hb dX6_eventAt_6 (by decide) (fun c2 => ?_) (fun c2 => ?_)
  · have h := if_t c2 h
    refine lv_iconst (v := (1 : Int32)) hx hb dX6_eventAt_19 (by decide) ?_
    refine lv_goto (tgt := 24) hx hb dX6_eventAt_20 (by decide) ?_
    exact LX6_eventAt_24 B C p1 p2 (1 : Int32) u _ _ _ V (lv_sub hl [0, 1, 2] rfl) h
  · have h := if_f c2 h
    refine lv_iload_n hx hb dX6_eventAt_9 rfl (lv_at hl 2 rfl) ?_
    refine lv_iconst (v := (0 : Int32)) hx hb dX6_eventAt_10 (by decide) ?_
    refine lv_bipush (v := (6 : Int32)) hx hb dX6_eventAt_11 (by decide) ?_
    obtain ⟨v3, hv3, h⟩ := bi_e h
    refine gw_ki V (va_runS (As := [.int p2, .int (0 : Int32), .int (6 : Int32)]) (rest := [.ref (a 0)]) ⟨hx, hb, hml, hown, hts⟩ (mX6_in (D := D) (a := a) (cA := cA) (u := u) hv3) (cwS 3 hts gmdX6_74 rfl rfl rfl (by decide +kernel) ⟨Nat.le_of_ble_eq_true rfl, Nat.le_of_ble_eq_true rfl⟩) (gw_preS gY_ok C V [.int p2, .int (0 : Int32), .int (6 : Int32)]) rfl rfl hl.1 rfl (lv_room (Nat.le_of_ble_eq_true rfl)) dX6_eventAt_13 ⟨Nat.zero_le _, Nat.zero_le _⟩) (fun H locs V => ?_)
    refine lv_if_ne (tgt := 23) hx hb dX6_eventAt_16 (by decide) (fun c4 => ?_) (fun c4 => ?_)
    · have h := if_t c4 h
      refine lv_iconst (v := (0 : Int32)) hx hb dX6_eventAt_23 (by decide) ?_
      exact LX6_eventAt_24 B C p1 p2 (0 : Int32) u _ _ _ V (lv_sub hl [0, 1, 2] rfl) h
    · have h := if_nn c4 h
      refine lv_iconst (v := (1 : Int32)) hx hb dX6_eventAt_19 (by decide) ?_
      refine lv_goto (tgt := 24) hx hb dX6_eventAt_20 (by decide) ?_
      exact LX6_eventAt_24 B C p1 p2 (1 : Int32) u _ _ _ V (lv_sub hl [0, 1, 2] rfl) h
set_option maxHeartbeats 4000000 in
theorem LX6_member_55 {p : Program} {l : Launch} {e : Env} {s : State} {m : MethodId} {below : List Frame} {meth : Method} {c : Code} {args : Array Value} {D : va_G} {a : Nat → Nat} {cA : ClassId} (B : gw_B p s m args meth c cX6_member 6 (some .int) RX6 gT) (C : gw_C D vwCl [(cA, .int)] (mdA a) gY s) {rv : Int32 × g_S} : ∀ (n : Nat) (x1 : Int32) (x4 : Int32) (x5 : Int32) (u : g_S) (H : Heap) (locs : List Loc) (ls : Array Slot), gw_V D vwCl (mdA a) (mdW a cA) s u H locs → lv_has ls 6 [(0, .ref (a 0)), (1, .int x1), (4, .int x4), (5, .int x5)] → fm_member_55 n u x1 x4 x5 = some rv → W p l e rmX6_member s m args below meth c H locs 0 0 (gw_Ei D vwCl (mdA a) (mdW a cA) below args s rv.1 rv.2) (F0 m 55 ls []) := by
  obtain ⟨hx, hb, hml, hown, hts, hr, hlk⟩ := id B
  intro n
  induction n with
  | zero =>
    intro x1 x4 x5 u H locs ls V hl h
    cases h
  | succ n ih =>
    intro x1 x4 x5 u H locs ls V hl h
    rw [fm_member_55_s] at h
    refine lv_iload hx hb dX6_member_55 (lv_at hl 3 rfl) ?_
    refine lv_aload_n hx hb dX6_member_57 rfl (lv_at hl 0 rfl) ?_
    refine va_get (C := RX6) (T := TX6) (N := 24) (ci := 5) hx hb hts igX6 hown C.1 V.1 0 rfl rfl 8 (by decide) (hts _ kt_611) (fun _ h => h) rfl dX6_member_58 ?_
    refine lv_icmp_ge (tgt := 110) hx hb dX6_member_61 (by decide) (fun c1 => ?_) (fun c1 => ?_)
    · have h := if_t c1 h
      refine lv_iconst (v := (0 : Int32)) hx hb dX6_member_110 (by decide) ?_
      exact gw_reti hx hb hr rfl hlk V (in2a h) (in2b h) dX6_member_111
    · have h := if_f c1 h
      refine lv_aload_n hx hb dX6_member_64 rfl (lv_at hl 0 rfl) ?_
      refine va_get (C := RX6) (T := TX6) (N := 24) (ci := 5) hx hb hts igX6 hown C.1 V.1 0 rfl rfl 15 (by decide) (hts _ kt_618) (fun _ h => h) rfl dX6_member_65 ?_
      refine lv_iload hx hb dX6_member_68 (lv_at hl 3 rfl) ?_
      obtain ⟨i2, h⟩ := ck_e h
      refine va_iald hx hb C.1 V.1 13 0 rfl rfl i2 dX6_member_70 ?_
      refine lv_iload_n hx hb dX6_member_71 rfl (lv_at hl 1 rfl) ?_
      refine lv_icmp_ne (tgt := 83) hx hb dX6_member_72 (by decide) (fun c3 => ?_) (fun c3 => ?_)
      · have h := if_t c3 h
        refine lv_iload hx hb dX6_member_83 (lv_at hl 2 rfl) ?_
        refine lv_aload_n hx hb dX6_member_85 rfl (lv_at hl 0 rfl) ?_
        refine va_get (C := RX6) (T := TX6) (N := 24) (ci := 5) hx hb hts igX6 hown C.1 V.1 0 rfl rfl 15 (by decide) (hts _ kt_618) (fun _ h => h) rfl dX6_member_86 ?_
        refine lv_iload hx hb dX6_member_89 (lv_at hl 3 rfl) ?_
        obtain ⟨i4, h⟩ := ck_e h
        refine va_iald hx hb C.1 V.1 13 0 rfl rfl i4 dX6_member_91 ?_
        refine lv_iload_n hx hb dX6_member_92 rfl (lv_at hl 1 rfl) ?_
        refine lv_icmp_ne (tgt := 100) hx hb dX6_member_93 (by decide) (fun c5 => ?_) (fun c5 => ?_)
        · have h := if_t c5 h
          refine lv_iconst (v := (0 : Int32)) hx hb dX6_member_100 (by decide) ?_
          refine lv_isub hx hb dX6_member_101 ?_
          obtain ⟨w6, ew6, h⟩ := gl_e h
          refine gw_nmi ew6 ?_
          refine lv_istore (lv' := [(4, .int w6), (0, .ref (a 0)), (1, .int x1), (5, .int x5)]) hx hb dX6_member_102 hl (by decide) rfl (fun ls hl => ?_)
          refine lv_iinc (v := (x5 + (1 : Int32))) (lv' := [(5, .int (x5 + (1 : Int32))), (4, .int w6), (0, .ref (a 0)), (1, .int x1)]) hx hb dX6_member_104 hl (k := 3) rfl rfl (by decide) rfl (fun ls hl => ?_)
          refine lv_goto (tgt := 55) hx hb dX6_member_107 (by decide) ?_
          exact ih x1 w6 (x5 + (1 : Int32)) u _ _ _ V (lv_sub hl [2, 3, 1, 0] rfl) h
        · have h := if_nn c5 h
          refine lv_iconst (v := (1 : Int32)) hx hb dX6_member_96 (by decide) ?_
          refine lv_goto (tgt := 101) hx hb dX6_member_97 (by decide) ?_
          refine lv_isub hx hb dX6_member_101 ?_
          obtain ⟨w7, ew7, h⟩ := gl_e h
          refine gw_nmi ew7 ?_
          refine lv_istore (lv' := [(4, .int w7), (0, .ref (a 0)), (1, .int x1), (5, .int x5)]) hx hb dX6_member_102 hl (by decide) rfl (fun ls hl => ?_)
          refine lv_iinc (v := (x5 + (1 : Int32))) (lv' := [(5, .int (x5 + (1 : Int32))), (4, .int w7), (0, .ref (a 0)), (1, .int x1)]) hx hb dX6_member_104 hl (k := 3) rfl rfl (by decide) rfl (fun ls hl => ?_)
          refine lv_goto (tgt := 55) hx hb dX6_member_107 (by decide) ?_
          exact ih x1 w7 (x5 + (1 : Int32)) u _ _ _ V (lv_sub hl [2, 3, 1, 0] rfl) h
      · have h := if_nn c3 h
        refine lv_iload hx hb dX6_member_75 (lv_at hl 2 rfl) ?_
        refine lv_if_ne (tgt := 83) hx hb dX6_member_77 (by decide) (fun c8 => ?_) (fun c8 => ?_)
        · have h := if_t c8 h
          refine lv_iload hx hb dX6_member_83 (lv_at hl 2 rfl) ?_
          refine lv_aload_n hx hb dX6_member_85 rfl (lv_at hl 0 rfl) ?_
          refine va_get (C := RX6) (T := TX6) (N := 24) (ci := 5) hx hb hts igX6 hown C.1 V.1 0 rfl rfl 15 (by decide) (hts _ kt_618) (fun _ h => h) rfl dX6_member_86 ?_
          refine lv_iload hx hb dX6_member_89 (lv_at hl 3 rfl) ?_
          obtain ⟨i9, h⟩ := ck_e h
          refine va_iald hx hb C.1 V.1 13 0 rfl rfl i9 dX6_member_91 ?_
          refine lv_iload_n hx hb dX6_member_92 rfl (lv_at hl 1 rfl) ?_
          refine lv_icmp_ne (tgt := 100) hx hb dX6_member_93 (by decide) (fun c10 => ?_) (fun c10 => ?_)
          · have h := if_t c10 h
            refine lv_iconst (v := (0 : Int32)) hx hb dX6_member_100 (by decide) ?_
            refine lv_isub hx hb dX6_member_101 ?_
            obtain ⟨w11, ew11, h⟩ := gl_e h
            refine gw_nmi ew11 ?_
            refine lv_istore (lv' := [(4, .int w11), (0, .ref (a 0)), (1, .int x1), (5, .int x5)]) hx hb dX6_member_102 hl (by decide) rfl (fun ls hl => ?_)
            refine lv_iinc (v := (x5 + (1 : Int32))) (lv' := [(5, .int (x5 + (1 : Int32))), (4, .int w11), (0, .ref (a 0)), (1, .int x1)]) hx hb dX6_member_104 hl (k := 3) rfl rfl (by decide) rfl (fun ls hl => ?_)
            refine lv_goto (tgt := 55) hx hb dX6_member_107 (by decide) ?_
            exact ih x1 w11 (x5 + (1 : Int32)) u _ _ _ V (lv_sub hl [2, 3, 1, 0] rfl) h
          · have h := if_nn c10 h
            refine lv_iconst (v := (1 : Int32)) hx hb dX6_member_96 (by decide) ?_
            refine lv_goto (tgt := 101) hx hb dX6_member_97 (by decide) ?_
            refine lv_isub hx hb dX6_member_101 ?_
            obtain ⟨w12, ew12, h⟩ := gl_e h
            refine gw_nmi ew12 ?_
            refine lv_istore (lv' := [(4, .int w12), (0, .ref (a 0)), (1, .int x1), (5, .int x5)]) hx hb dX6_member_102 hl (by decide) rfl (fun ls hl => ?_)
            refine lv_iinc (v := (x5 + (1 : Int32))) (lv' := [(5, .int (x5 + (1 : Int32))), (4, .int w12), (0, .ref (a 0)), (1, .int x1)]) hx hb dX6_member_104 hl (k := 3) rfl rfl (by decide) rfl (fun ls hl => ?_)
            refine lv_goto (tgt := 55) hx hb dX6_member_107 (by decide) ?_
            exact ih x1 w12 (x5 + (1 : Int32)) u _ _ _ V (lv_sub hl [2, 3, 1, 0] rfl) h
        · have h := if_nn c8 h
          refine lv_iload hx hb dX6_member_80 (lv_at hl 3 rfl) ?_
          exact gw_reti hx hb hr rfl hlk V (in2a h) (in2b h) dX6_member_82
set_option maxHeartbeats 4000000 in
theorem LX6_member_40 {p : Program} {l : Launch} {e : Env} {s : State} {m : MethodId} {below : List Frame} {meth : Method} {c : Code} {args : Array Value} {D : va_G} {a : Nat → Nat} {cA : ClassId} (B : gw_B p s m args meth c cX6_member 6 (some .int) RX6 gT) (C : gw_C D vwCl [(cA, .int)] (mdA a) gY s) {rv : Int32 × g_S} : ∀ (x1 : Int32) (x2 : Int32) (y1 : Int32) (y2 : Int32) (u : g_S) (H : Heap) (locs : List Loc) (ls : Array Slot), gw_V D vwCl (mdA a) (mdW a cA) s u H locs → lv_has ls 6 [(0, .ref (a 0)), (1, .int x1), (2, .int x2)] → fm_member_40 u x1 x2 y1 y2 = some rv → W p l e rmX6_member s m args below meth c H locs 0 0 (gw_Ei D vwCl (mdA a) (mdW a cA) below args s rv.1 rv.2) (F0 m 40 ls [.int y2, .int y1, .ref (a 0)]) := by
  obtain ⟨hx, hb, hml, hown, hts, hr, hlk⟩ := id B
  intro x1 x2 y1 y2 u H locs ls V hl h
  unfold fm_member_40 at h
  refine lv_iconst (v := (0 : Int32)) hx hb dX6_member_40 (by decide) ?_
  obtain ⟨v1, hv1, h⟩ := bi_e h
  refine gw_ki V (va_runV (As := [.int y1, .int y2, .int (0 : Int32)]) (rest := []) ⟨hx, hb, hml, hown, hts⟩ (mX6_throwing (D := D) (a := a) (cA := cA) (u := u) hv1) (cwV 3 hts gmdX6_90 rfl rfl rfl (by decide +kernel) ⟨Nat.le_of_ble_eq_true rfl, Nat.le_of_ble_eq_true rfl⟩) (gw_preV (q0 := 0) (ci := 5) gY_ok C V [.int y1, .int y2, .int (0 : Int32)] rfl rfl) rfl rfl hl.1 rfl (lv_room (Nat.le_of_ble_eq_true rfl)) dX6_member_41 ⟨Nat.zero_le _, Nat.zero_le _⟩) (fun H locs V => ?_)
  refine lv_if_eq (tgt := 49) hx hb dX6_member_44 (by decide) (fun c2 => ?_) (fun c2 => ?_)
  · have h := if_t c2 h
    refine lv_iload_n hx hb dX6_member_49 rfl (lv_at hl 2 rfl) ?_
    refine lv_istore (lv' := [(4, .int x2), (0, .ref (a 0)), (1, .int x1), (2, .int x2)]) hx hb dX6_member_50 hl (by decide) rfl (fun ls hl => ?_)
    refine lv_iconst (v := (0 : Int32)) hx hb dX6_member_52 (by decide) ?_
    refine lv_istore (lv' := [(5, .int (0 : Int32)), (4, .int x2), (0, .ref (a 0)), (1, .int x1), (2, .int x2)]) hx hb dX6_member_53 hl (by decide) rfl (fun ls hl => ?_)
    exact LX6_member_55 B C 200 x1 x2 (0 : Int32) v1.2 _ _ _ V (lv_sub hl [2, 3, 1, 0] rfl) h
  · have h := if_f c2 h
    refine lv_iconst (v := (0 : Int32)) hx hb dX6_member_47 (by decide) ?_
    exact gw_reti hx hb hr rfl hlk V (in2a h) (in2b h) dX6_member_48
set_option maxHeartbeats 4000000 in
theorem LX6_member_16 {p : Program} {l : Launch} {e : Env} {s : State} {m : MethodId} {below : List Frame} {meth : Method} {c : Code} {args : Array Value} {D : va_G} {a : Nat → Nat} {cA : ClassId} (B : gw_B p s m args meth c cX6_member 6 (some .int) RX6 gT) (C : gw_C D vwCl [(cA, .int)] (mdA a) gY s) {rv : Int32 × g_S} : ∀ (x1 : Int32) (x2 : Int32) (x3 : Int32) (y1 : Int32) (u : g_S) (H : Heap) (locs : List Loc) (ls : Array Slot), gw_V D vwCl (mdA a) (mdW a cA) s u H locs → lv_has ls 6 [(0, .ref (a 0)), (1, .int x1), (2, .int x2), (3, .int x3)] → fm_member_16 u x1 x2 x3 y1 = some rv → W p l e rmX6_member s m args below meth c H locs 0 0 (gw_Ei D vwCl (mdA a) (mdW a cA) below args s rv.1 rv.2) (F0 m 16 ls [.int y1, .ref (a 0)]) := by
  obtain ⟨hx, hb, hml, hown, hts, hr, hlk⟩ := id B
  intro x1 x2 x3 y1 u H locs ls V hl h
  unfold fm_member_16 at h
  refine lv_iload_n hx hb dX6_member_16 rfl (lv_at hl 3 rfl) ?_
  refine lv_if_eq (tgt := 39) hx hb dX6_member_17 (by decide) (fun c1 => ?_) (fun c1 => ?_)
  · have h := if_t c1 h
    refine lv_iconst (v := (0 : Int32)) hx hb dX6_member_39 (by decide) ?_
    exact LX6_member_40 B C x1 x2 y1 (0 : Int32) u _ _ _ V (lv_sub hl [0, 1, 2] rfl) h
  · have h := if_f c1 h
    refine lv_iload_n hx hb dX6_member_20 rfl (lv_at hl 2 rfl) ?_
    refine lv_iconst (v := (0 : Int32)) hx hb dX6_member_21 (by decide) ?_
    refine lv_aload_n hx hb dX6_member_22 rfl (lv_at hl 0 rfl) ?_
    refine lv_iload_n hx hb dX6_member_23 rfl (lv_at hl 1 rfl) ?_
    obtain ⟨v2, hv2, h⟩ := bi_e h
    refine gw_ki V (va_runV (As := [.int x1]) (rest := [.int (0 : Int32), .int x2, .int y1, .ref (a 0)]) ⟨hx, hb, hml, hown, hts⟩ (mX6_size (D := D) (a := a) (cA := cA) (u := u) hv2) (cwV 1 hts gmdX6_173 rfl rfl rfl (by decide +kernel) ⟨Nat.le_of_ble_eq_true rfl, Nat.le_of_ble_eq_true rfl⟩) (gw_preV (q0 := 0) (ci := 5) gY_ok C V [.int x1] rfl rfl) rfl rfl hl.1 rfl (lv_room (Nat.le_of_ble_eq_true rfl)) dX6_member_24 ⟨Nat.zero_le _, Nat.zero_le _⟩) (fun H locs V => ?_)
    refine lv_iconst (v := (1 : Int32)) hx hb dX6_member_27 (by decide) ?_
    refine lv_isub hx hb dX6_member_28 ?_
    obtain ⟨v3, hv3, h⟩ := bi_e h
    refine gw_ki V (va_runS (As := [.int x2, .int (0 : Int32), .int (v2 - (1 : Int32))]) (rest := [.int y1, .ref (a 0)]) ⟨hx, hb, hml, hown, hts⟩ (mX6_in (D := D) (a := a) (cA := cA) (u := u) hv3) (cwS 3 hts gmdX6_74 rfl rfl rfl (by decide +kernel) ⟨Nat.le_of_ble_eq_true rfl, Nat.le_of_ble_eq_true rfl⟩) (gw_preS gY_ok C V [.int x2, .int (0 : Int32), .int (v2 - (1 : Int32))]) rfl rfl hl.1 rfl (lv_room (Nat.le_of_ble_eq_true rfl)) dX6_member_29 ⟨Nat.zero_le _, Nat.zero_le _⟩) (fun H locs V => ?_)
    refine lv_if_ne (tgt := 39) hx hb dX6_member_32 (by decide) (fun c4 => ?_) (fun c4 => ?_)
    · have h := if_t c4 h
      refine lv_iconst (v := (0 : Int32)) hx hb dX6_member_39 (by decide) ?_
      exact LX6_member_40 B C x1 x2 y1 (0 : Int32) u _ _ _ V (lv_sub hl [0, 1, 2] rfl) h
    · have h := if_nn c4 h
      refine lv_iconst (v := (1 : Int32)) hx hb dX6_member_35 (by decide) ?_
      refine lv_goto (tgt := 40) hx hb dX6_member_36 (by decide) ?_
      exact LX6_member_40 B C x1 x2 y1 (1 : Int32) u _ _ _ V (lv_sub hl [0, 1, 2] rfl) h
set_option maxHeartbeats 4000000 in
theorem mX6_member {l : Launch} {D : va_G} {a : Nat → Nat} {cA : ClassId} {sz : Nat} {u : g_S} {p1 : Int32} {p2 : Int32} {rv : Int32 × g_S} (h : fm_member u p1 p2 = some rv) : gw_Mi D vwCl [(cA, .int)] (mdA a) gY (mdW a cA) l yX6_member wxX6_member rmX6_member sz u [.ref (a 0), .int p1, .int p2] rv.1 rv.2 := by
  refine gw_Mof (Qc := fun z => va_Qi (gw_Pi rv.1 rv.2) (gw_W D vwCl (mdW a cA)) (rg (mdA a) z)) (cc := cX6_member) (maxL := 6) (ret := (some .int)) (by decide) rfl ?_
  intro p e s m below meth c B C V
  obtain ⟨hx, hb, hml, hown, hts, hr, hlk⟩ := id B
  have hl := lv_entry ([.ref (a 0), .int p1, .int p2]) (n := 6) (Nat.le_of_ble_eq_true rfl)
  rw [lg_entry_eq]
  generalize (lg_sl ([.ref (a 0), .int p1, .int p2]) ++ List.replicate (6 - (lg_sl ([.ref (a 0), .int p1, .int p2])).length) Slot.unset).toArray = ls at hl ⊢
  have hl : lv_has ls 6 [(0, .ref (a 0)), (1, .int p1), (2, .int p2)] := hl
  unfold fm_member at h
  refine lv_aload_n hx hb dX6_member_0 rfl (lv_at hl 0 rfl) ?_
  refine lv_iload_n hx hb dX6_member_1 rfl (lv_at hl 1 rfl) ?_
  obtain ⟨v1, hv1, h⟩ := bi_e h
  refine gw_ki V (va_runV (As := [.int p1]) (rest := []) ⟨hx, hb, hml, hown, hts⟩ (mX6_isEvent (D := D) (a := a) (cA := cA) (u := u) hv1) (cwV 1 hts gmdX6_170 rfl rfl rfl (by decide +kernel) ⟨Nat.le_of_ble_eq_true rfl, Nat.le_of_ble_eq_true rfl⟩) (gw_preV (q0 := 0) (ci := 5) gY_ok C V [.int p1] rfl rfl) rfl rfl hl.1 rfl (lv_room (Nat.le_of_ble_eq_true rfl)) dX6_member_2 ⟨Nat.zero_le _, Nat.zero_le _⟩) (fun H locs V => ?_)
  refine lv_istore_n (lv' := [(3, .int v1), (0, .ref (a 0)), (1, .int p1), (2, .int p2)]) hx hb dX6_member_5 rfl hl (by decide) rfl (fun ls hl => ?_)
  refine lv_aload_n hx hb dX6_member_6 rfl (lv_at hl 1 rfl) ?_
  refine lv_iload_n hx hb dX6_member_7 rfl (lv_at hl 0 rfl) ?_
  refine lv_if_ne (tgt := 15) hx hb dX6_member_8 (by decide) (fun c2 => ?_) (fun c2 => ?_)
  · have h := if_t c2 h
    refine lv_iconst (v := (0 : Int32)) hx hb dX6_member_15 (by decide) ?_
    exact LX6_member_16 B C p1 p2 v1 (0 : Int32) u _ _ _ V (lv_sub hl [1, 2, 3, 0] rfl) h
  · have h := if_nn c2 h
    refine lv_iconst (v := (1 : Int32)) hx hb dX6_member_11 (by decide) ?_
    refine lv_goto (tgt := 16) hx hb dX6_member_12 (by decide) ?_
    exact LX6_member_16 B C p1 p2 v1 (1 : Int32) u _ _ _ V (lv_sub hl [1, 2, 3, 0] rfl) h
set_option maxHeartbeats 4000000 in
theorem LX6_count_88 {p : Program} {l : Launch} {e : Env} {s : State} {m : MethodId} {below : List Frame} {meth : Method} {c : Code} {args : Array Value} {D : va_G} {a : Nat → Nat} {cA : ClassId} (B : gw_B p s m args meth c cX6_count 4 (some .int) RX6 gT) (C : gw_C D vwCl [(cA, .int)] (mdA a) gY s) {rv : Int32 × g_S} : ∀ (n : Nat) (x1 : Int32) (x2 : Int32) (x3 : Int32) (u : g_S) (H : Heap) (locs : List Loc) (ls : Array Slot), gw_V D vwCl (mdA a) (mdW a cA) s u H locs → lv_has ls 4 [(0, .ref (a 0)), (1, .int x1), (2, .int x2), (3, .int x3)] → fm_count_88 n u x1 x2 x3 = some rv → W p l e rmX6_count s m args below meth c H locs 0 0 (gw_Ei D vwCl (mdA a) (mdW a cA) below args s rv.1 rv.2) (F0 m 88 ls []) := by
  obtain ⟨hx, hb, hml, hown, hts, hr, hlk⟩ := id B
  intro n
  induction n with
  | zero =>
    intro x1 x2 x3 u H locs ls V hl h
    cases h
  | succ n ih =>
    intro x1 x2 x3 u H locs ls V hl h
    rw [fm_count_88_s] at h
    refine lv_iload_n hx hb dX6_count_88 rfl (lv_at hl 3 rfl) ?_
    refine lv_aload_n hx hb dX6_count_89 rfl (lv_at hl 0 rfl) ?_
    refine va_get (C := RX6) (T := TX6) (N := 24) (ci := 5) hx hb hts igX6 hown C.1 V.1 0 rfl rfl 8 (by decide) (hts _ kt_611) (fun _ h => h) rfl dX6_count_90 ?_
    refine lv_icmp_ge (tgt := 123) hx hb dX6_count_93 (by decide) (fun c1 => ?_) (fun c1 => ?_)
    · have h := if_t c1 h
      refine lv_iload_n hx hb dX6_count_123 rfl (lv_at hl 2 rfl) ?_
      exact gw_reti hx hb hr rfl hlk V (in2a h) (in2b h) dX6_count_124
    · have h := if_f c1 h
      refine lv_iload_n hx hb dX6_count_96 rfl (lv_at hl 1 rfl) ?_
      refine lv_iconst (v := (3 : Int32)) hx hb dX6_count_97 (by decide) ?_
      refine lv_icmp_ne (tgt := 123) hx hb dX6_count_98 (by decide) (fun c2 => ?_) (fun c2 => ?_)
      · have h := if_t c2 h
        refine lv_iload_n hx hb dX6_count_123 rfl (lv_at hl 2 rfl) ?_
        exact gw_reti hx hb hr rfl hlk V (in2a h) (in2b h) dX6_count_124
      · have h := if_nn c2 h
        refine lv_iload_n hx hb dX6_count_101 rfl (lv_at hl 2 rfl) ?_
        refine lv_aload_n hx hb dX6_count_102 rfl (lv_at hl 0 rfl) ?_
        refine lv_iload_n hx hb dX6_count_103 rfl (lv_at hl 3 rfl) ?_
        obtain ⟨v3, hv3, h⟩ := bi_e h
        refine gw_ki V (va_runV (As := [.int x3]) (rest := [.int x2]) ⟨hx, hb, hml, hown, hts⟩ (mX6_isHoax (D := D) (a := a) (cA := cA) (u := u) hv3) (cwV 1 hts gmdX6_121 rfl rfl rfl (by decide +kernel) ⟨Nat.le_of_ble_eq_true rfl, Nat.le_of_ble_eq_true rfl⟩) (gw_preV (q0 := 0) (ci := 5) gY_ok C V [.int x3] rfl rfl) rfl rfl hl.1 rfl (lv_room (Nat.le_of_ble_eq_true rfl)) dX6_count_104 ⟨Nat.zero_le _, Nat.zero_le _⟩) (fun H locs V => ?_)
        refine lv_if_eq (tgt := 114) hx hb dX6_count_107 (by decide) (fun c4 => ?_) (fun c4 => ?_)
        · have h := if_t c4 h
          refine lv_iconst (v := (0 : Int32)) hx hb dX6_count_114 (by decide) ?_
          refine lv_iadd hx hb dX6_count_115 ?_
          obtain ⟨w5, ew5, h⟩ := gl_e h
          refine gw_nmi ew5 ?_
          refine lv_istore_n (lv' := [(2, .int w5), (0, .ref (a 0)), (1, .int x1), (3, .int x3)]) hx hb dX6_count_116 rfl hl (by decide) rfl (fun ls hl => ?_)
          refine lv_iinc (v := (x3 + (1 : Int32))) (lv' := [(3, .int (x3 + (1 : Int32))), (2, .int w5), (0, .ref (a 0)), (1, .int x1)]) hx hb dX6_count_117 hl (k := 3) rfl rfl (by decide) rfl (fun ls hl => ?_)
          refine lv_goto (tgt := 88) hx hb dX6_count_120 (by decide) ?_
          exact ih x1 w5 (x3 + (1 : Int32)) u _ _ _ V (lv_sub hl [2, 3, 1, 0] rfl) h
        · have h := if_f c4 h
          refine lv_iconst (v := (1 : Int32)) hx hb dX6_count_110 (by decide) ?_
          refine lv_goto (tgt := 115) hx hb dX6_count_111 (by decide) ?_
          refine lv_iadd hx hb dX6_count_115 ?_
          obtain ⟨w6, ew6, h⟩ := gl_e h
          refine gw_nmi ew6 ?_
          refine lv_istore_n (lv' := [(2, .int w6), (0, .ref (a 0)), (1, .int x1), (3, .int x3)]) hx hb dX6_count_116 rfl hl (by decide) rfl (fun ls hl => ?_)
          refine lv_iinc (v := (x3 + (1 : Int32))) (lv' := [(3, .int (x3 + (1 : Int32))), (2, .int w6), (0, .ref (a 0)), (1, .int x1)]) hx hb dX6_count_117 hl (k := 3) rfl rfl (by decide) rfl (fun ls hl => ?_)
          refine lv_goto (tgt := 88) hx hb dX6_count_120 (by decide) ?_
          exact ih x1 w6 (x3 + (1 : Int32)) u _ _ _ V (lv_sub hl [2, 3, 1, 0] rfl) h
set_option maxHeartbeats 4000000 in
theorem LX6_count_50 {p : Program} {l : Launch} {e : Env} {s : State} {m : MethodId} {below : List Frame} {meth : Method} {c : Code} {args : Array Value} {D : va_G} {a : Nat → Nat} {cA : ClassId} (B : gw_B p s m args meth c cX6_count 4 (some .int) RX6 gT) (C : gw_C D vwCl [(cA, .int)] (mdA a) gY s) {rv : Int32 × g_S} : ∀ (n : Nat) (x1 : Int32) (x2 : Int32) (x3 : Int32) (u : g_S) (H : Heap) (locs : List Loc) (ls : Array Slot), gw_V D vwCl (mdA a) (mdW a cA) s u H locs → lv_has ls 4 [(0, .ref (a 0)), (1, .int x1), (2, .int x2), (3, .int x3)] → fm_count_50 n u x1 x2 x3 = some rv → W p l e rmX6_count s m args below meth c H locs 0 0 (gw_Ei D vwCl (mdA a) (mdW a cA) below args s rv.1 rv.2) (F0 m 50 ls []) := by
  obtain ⟨hx, hb, hml, hown, hts, hr, hlk⟩ := id B
  intro n
  induction n with
  | zero =>
    intro x1 x2 x3 u H locs ls V hl h
    cases h
  | succ n ih =>
    intro x1 x2 x3 u H locs ls V hl h
    rw [fm_count_50_s] at h
    refine lv_iload_n hx hb dX6_count_50 rfl (lv_at hl 3 rfl) ?_
    refine lv_aload_n hx hb dX6_count_51 rfl (lv_at hl 0 rfl) ?_
    refine va_get (C := RX6) (T := TX6) (N := 24) (ci := 5) hx hb hts igX6 hown C.1 V.1 0 rfl rfl 9 (by decide) (hts _ kt_612) (fun _ h => h) rfl dX6_count_52 ?_
    refine lv_icmp_ge (tgt := 86) hx hb dX6_count_55 (by decide) (fun c1 => ?_) (fun c1 => ?_)
    · have h := if_t c1 h
      refine lv_iconst (v := (0 : Int32)) hx hb dX6_count_86 (by decide) ?_
      refine lv_istore_n (lv' := [(3, .int (0 : Int32)), (0, .ref (a 0)), (1, .int x1), (2, .int x2)]) hx hb dX6_count_87 rfl hl (by decide) rfl (fun ls hl => ?_)
      exact LX6_count_88 B C 200 x1 x2 (0 : Int32) u _ _ _ V (lv_sub hl [1, 2, 3, 0] rfl) h
    · have h := if_f c1 h
      refine lv_iload_n hx hb dX6_count_58 rfl (lv_at hl 1 rfl) ?_
      refine lv_iconst (v := (2 : Int32)) hx hb dX6_count_59 (by decide) ?_
      refine lv_icmp_ne (tgt := 86) hx hb dX6_count_60 (by decide) (fun c2 => ?_) (fun c2 => ?_)
      · have h := if_t c2 h
        refine lv_iconst (v := (0 : Int32)) hx hb dX6_count_86 (by decide) ?_
        refine lv_istore_n (lv' := [(3, .int (0 : Int32)), (0, .ref (a 0)), (1, .int x1), (2, .int x2)]) hx hb dX6_count_87 rfl hl (by decide) rfl (fun ls hl => ?_)
        exact LX6_count_88 B C 200 x1 x2 (0 : Int32) u _ _ _ V (lv_sub hl [1, 2, 3, 0] rfl) h
      · have h := if_nn c2 h
        refine lv_iload_n hx hb dX6_count_63 rfl (lv_at hl 2 rfl) ?_
        refine lv_aload_n hx hb dX6_count_64 rfl (lv_at hl 0 rfl) ?_
        refine va_get (C := RX6) (T := TX6) (N := 24) (ci := 5) hx hb hts igX6 hown C.1 V.1 0 rfl rfl 19 (by decide) (hts _ kt_622) (fun _ h => h) rfl dX6_count_65 ?_
        refine lv_iload_n hx hb dX6_count_68 rfl (lv_at hl 3 rfl) ?_
        obtain ⟨i3, h⟩ := ck_e h
        refine va_iald hx hb C.1 V.1 17 0 rfl rfl i3 dX6_count_69 ?_
        refine lv_if_ne (tgt := 77) hx hb dX6_count_70 (by decide) (fun c4 => ?_) (fun c4 => ?_)
        · have h := if_t c4 h
          refine lv_iconst (v := (0 : Int32)) hx hb dX6_count_77 (by decide) ?_
          refine lv_iadd hx hb dX6_count_78 ?_
          obtain ⟨w5, ew5, h⟩ := gl_e h
          refine gw_nmi ew5 ?_
          refine lv_istore_n (lv' := [(2, .int w5), (0, .ref (a 0)), (1, .int x1), (3, .int x3)]) hx hb dX6_count_79 rfl hl (by decide) rfl (fun ls hl => ?_)
          refine lv_iinc (v := (x3 + (1 : Int32))) (lv' := [(3, .int (x3 + (1 : Int32))), (2, .int w5), (0, .ref (a 0)), (1, .int x1)]) hx hb dX6_count_80 hl (k := 3) rfl rfl (by decide) rfl (fun ls hl => ?_)
          refine lv_goto (tgt := 50) hx hb dX6_count_83 (by decide) ?_
          exact ih x1 w5 (x3 + (1 : Int32)) u _ _ _ V (lv_sub hl [2, 3, 1, 0] rfl) h
        · have h := if_nn c4 h
          refine lv_iconst (v := (1 : Int32)) hx hb dX6_count_73 (by decide) ?_
          refine lv_goto (tgt := 78) hx hb dX6_count_74 (by decide) ?_
          refine lv_iadd hx hb dX6_count_78 ?_
          obtain ⟨w6, ew6, h⟩ := gl_e h
          refine gw_nmi ew6 ?_
          refine lv_istore_n (lv' := [(2, .int w6), (0, .ref (a 0)), (1, .int x1), (3, .int x3)]) hx hb dX6_count_79 rfl hl (by decide) rfl (fun ls hl => ?_)
          refine lv_iinc (v := (x3 + (1 : Int32))) (lv' := [(3, .int (x3 + (1 : Int32))), (2, .int w6), (0, .ref (a 0)), (1, .int x1)]) hx hb dX6_count_80 hl (k := 3) rfl rfl (by decide) rfl (fun ls hl => ?_)
          refine lv_goto (tgt := 50) hx hb dX6_count_83 (by decide) ?_
          exact ih x1 w6 (x3 + (1 : Int32)) u _ _ _ V (lv_sub hl [2, 3, 1, 0] rfl) h
set_option maxHeartbeats 4000000 in
theorem LX6_count_15 {p : Program} {l : Launch} {e : Env} {s : State} {m : MethodId} {below : List Frame} {meth : Method} {c : Code} {args : Array Value} {D : va_G} {a : Nat → Nat} {cA : ClassId} (B : gw_B p s m args meth c cX6_count 4 (some .int) RX6 gT) (C : gw_C D vwCl [(cA, .int)] (mdA a) gY s) {rv : Int32 × g_S} : ∀ (x1 : Int32) (y1 : Int32) (u : g_S) (H : Heap) (locs : List Loc) (ls : Array Slot), gw_V D vwCl (mdA a) (mdW a cA) s u H locs → lv_has ls 4 [(0, .ref (a 0)), (1, .int x1)] → fm_count_15 u x1 y1 = some rv → W p l e rmX6_count s m args below meth c H locs 0 0 (gw_Ei D vwCl (mdA a) (mdW a cA) below args s rv.1 rv.2) (F0 m 15 ls [.int y1, .ref (a 0)]) := by
  obtain ⟨hx, hb, hml, hown, hts, hr, hlk⟩ := id B
  intro x1 y1 u H locs ls V hl h
  unfold fm_count_15 at h
  refine lv_iconst (v := (0 : Int32)) hx hb dX6_count_15 (by decide) ?_
  refine lv_iconst (v := (0 : Int32)) hx hb dX6_count_16 (by decide) ?_
  obtain ⟨v1, hv1, h⟩ := bi_e h
  refine gw_ki V (va_runV (As := [.int y1, .int (0 : Int32), .int (0 : Int32)]) (rest := []) ⟨hx, hb, hml, hown, hts⟩ (mX6_throwing (D := D) (a := a) (cA := cA) (u := u) hv1) (cwV 3 hts gmdX6_90 rfl rfl rfl (by decide +kernel) ⟨Nat.le_of_ble_eq_true rfl, Nat.le_of_ble_eq_true rfl⟩) (gw_preV (q0 := 0) (ci := 5) gY_ok C V [.int y1, .int (0 : Int32), .int (0 : Int32)] rfl rfl) rfl rfl hl.1 rfl (lv_room (Nat.le_of_ble_eq_true rfl)) dX6_count_17 ⟨Nat.zero_le _, Nat.zero_le _⟩) (fun H locs V => ?_)
  refine lv_if_eq (tgt := 25) hx hb dX6_count_20 (by decide) (fun c2 => ?_) (fun c2 => ?_)
  · have h := if_t c2 h
    refine lv_iload_n hx hb dX6_count_25 rfl (lv_at hl 1 rfl) ?_
    refine lv_iconst (v := (2 : Int32)) hx hb dX6_count_26 (by decide) ?_
    refine lv_icmp_ge (tgt := 46) hx hb dX6_count_27 (by decide) (fun c3 => ?_) (fun c3 => ?_)
    · have h := if_t c3 h
      refine lv_iconst (v := (0 : Int32)) hx hb dX6_count_46 (by decide) ?_
      refine lv_istore_n (lv' := [(2, .int (0 : Int32)), (0, .ref (a 0)), (1, .int x1)]) hx hb dX6_count_47 rfl hl (by decide) rfl (fun ls hl => ?_)
      refine lv_iconst (v := (0 : Int32)) hx hb dX6_count_48 (by decide) ?_
      refine lv_istore_n (lv' := [(3, .int (0 : Int32)), (2, .int (0 : Int32)), (0, .ref (a 0)), (1, .int x1)]) hx hb dX6_count_49 rfl hl (by decide) rfl (fun ls hl => ?_)
      exact LX6_count_50 B C 200 x1 (0 : Int32) (0 : Int32) v1.2 _ _ _ V (lv_sub hl [2, 3, 1, 0] rfl) h
    · have h := if_f c3 h
      refine lv_iload_n hx hb dX6_count_30 rfl (lv_at hl 1 rfl) ?_
      refine lv_if_ne (tgt := 41) hx hb dX6_count_31 (by decide) (fun c4 => ?_) (fun c4 => ?_)
      · have h := if_t c4 h
        refine lv_aload_n hx hb dX6_count_41 rfl (lv_at hl 0 rfl) ?_
        refine va_get (C := RX6) (T := TX6) (N := 24) (ci := 5) hx hb hts igX6 hown C.1 V.1 0 rfl rfl 9 (by decide) (hts _ kt_612) (fun _ h => h) rfl dX6_count_42 ?_
        exact gw_reti hx hb hr rfl hlk V (in2a h) (in2b h) dX6_count_45
      · have h := if_nn c4 h
        refine lv_aload_n hx hb dX6_count_34 rfl (lv_at hl 0 rfl) ?_
        refine va_get (C := RX6) (T := TX6) (N := 24) (ci := 5) hx hb hts igX6 hown C.1 V.1 0 rfl rfl 8 (by decide) (hts _ kt_611) (fun _ h => h) rfl dX6_count_35 ?_
        refine lv_goto (tgt := 45) hx hb dX6_count_38 (by decide) ?_
        exact gw_reti hx hb hr rfl hlk V (in2a h) (in2b h) dX6_count_45
  · have h := if_f c2 h
    refine lv_iconst (v := (0 : Int32)) hx hb dX6_count_23 (by decide) ?_
    exact gw_reti hx hb hr rfl hlk V (in2a h) (in2b h) dX6_count_24
set_option maxHeartbeats 4000000 in
theorem mX6_count {l : Launch} {D : va_G} {a : Nat → Nat} {cA : ClassId} {sz : Nat} {u : g_S} {p1 : Int32} {rv : Int32 × g_S} (h : fm_count u p1 = some rv) : gw_Mi D vwCl [(cA, .int)] (mdA a) gY (mdW a cA) l yX6_count wxX6_count rmX6_count sz u [.ref (a 0), .int p1] rv.1 rv.2 := by
  refine gw_Mof (Qc := fun z => va_Qi (gw_Pi rv.1 rv.2) (gw_W D vwCl (mdW a cA)) (rg (mdA a) z)) (cc := cX6_count) (maxL := 4) (ret := (some .int)) (by decide) rfl ?_
  intro p e s m below meth c B C V
  obtain ⟨hx, hb, hml, hown, hts, hr, hlk⟩ := id B
  have hl := lv_entry ([.ref (a 0), .int p1]) (n := 4) (Nat.le_of_ble_eq_true rfl)
  rw [lg_entry_eq]
  generalize (lg_sl ([.ref (a 0), .int p1]) ++ List.replicate (4 - (lg_sl ([.ref (a 0), .int p1])).length) Slot.unset).toArray = ls at hl ⊢
  have hl : lv_has ls 4 [(0, .ref (a 0)), (1, .int p1)] := hl
  unfold fm_count at h
  refine lv_aload_n hx hb dX6_count_0 rfl (lv_at hl 0 rfl) ?_
  refine lv_iload_n hx hb dX6_count_1 rfl (lv_at hl 1 rfl) ?_
  refine lv_iconst (v := (0 : Int32)) hx hb dX6_count_2 (by decide) ?_
  refine lv_iconst (v := (3 : Int32)) hx hb dX6_count_3 (by decide) ?_
  obtain ⟨v1, hv1, h⟩ := bi_e h
  refine gw_ki V (va_runS (As := [.int p1, .int (0 : Int32), .int (3 : Int32)]) (rest := [.ref (a 0)]) ⟨hx, hb, hml, hown, hts⟩ (mX6_in (D := D) (a := a) (cA := cA) (u := u) hv1) (cwS 3 hts gmdX6_74 rfl rfl rfl (by decide +kernel) ⟨Nat.le_of_ble_eq_true rfl, Nat.le_of_ble_eq_true rfl⟩) (gw_preS gY_ok C V [.int p1, .int (0 : Int32), .int (3 : Int32)]) rfl rfl hl.1 rfl (lv_room (Nat.le_of_ble_eq_true rfl)) dX6_count_4 ⟨Nat.zero_le _, Nat.zero_le _⟩) (fun H locs V => ?_)
  refine lv_if_ne (tgt := 14) hx hb dX6_count_7 (by decide) (fun c2 => ?_) (fun c2 => ?_)
  · have h := if_t c2 h
    refine lv_iconst (v := (0 : Int32)) hx hb dX6_count_14 (by decide) ?_
    exact LX6_count_15 B C p1 (0 : Int32) u _ _ _ V (lv_sub hl [0, 1] rfl) h
  · have h := if_nn c2 h
    refine lv_iconst (v := (1 : Int32)) hx hb dX6_count_10 (by decide) ?_
    refine lv_goto (tgt := 15) hx hb dX6_count_11 (by decide) ?_
    exact LX6_count_15 B C p1 (1 : Int32) u _ _ _ V (lv_sub hl [0, 1] rfl) h
