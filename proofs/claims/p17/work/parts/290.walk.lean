set_option maxHeartbeats 4000000 in
theorem LX6_size_4 {p : Program} {l : Launch} {e : Env} {s : State} {m : MethodId} {below : List Frame} {meth : Method} {c : Code} {args : Array Value} {D : va_G} {a : Nat → Nat} {cA : ClassId} (B : gw_B p s m args meth c cX6_size 4 (some .int) RX6 gT) (C : gw_C D vwCl [(cA, .int)] (mdA a) gY s) {rv : Int32} {u : g_S} : ∀ (n : Nat) (x1 : Int32) (x2 : Int32) (x3 : Int32) (H : Heap) (locs : List Loc) (ls : Array Slot), gw_V D vwCl (mdA a) (mdW a cA) s u H locs → lv_has ls 4 [(0, .ref (a 0)), (1, .int x1), (2, .int x2), (3, .int x3)] → fm_size_4 u n x1 x2 x3 = some rv → W p l e rmX6_size s m args below meth c H locs 0 0 (gw_Ei D vwCl (mdA a) (mdW a cA) below args s rv u) (F0 m 4 ls []) := by
  obtain ⟨hx, hb, hml, hown, hts, hr, hlk⟩ := id B
  intro n
  induction n with
  | zero =>
    intro x1 x2 x3 H locs ls V hl h
    cases h
  | succ n ih =>
    intro x1 x2 x3 H locs ls V hl h
    rw [fm_size_4_s] at h
    refine lv_iload_n hx hb dX6_size_4 rfl (lv_at hl 3 rfl) ?_
    refine lv_aload_n hx hb dX6_size_5 rfl (lv_at hl 0 rfl) ?_
    refine va_get (C := RX6) (T := TX6) (N := 24) (ci := 5) hx hb hts igX6 hown C.1 V.1 0 rfl rfl 8 (by decide) (hts _ kt_611) (fun _ h => h) rfl dX6_size_6 ?_
    refine lv_icmp_ge (tgt := 36) hx hb dX6_size_9 (by decide) (fun c1 => ?_) (fun c1 => ?_)
    · have h := if_t c1 h
      refine lv_iload_n hx hb dX6_size_36 rfl (lv_at hl 2 rfl) ?_
      exact gw_reti hx hb hr rfl hlk V (Option.some.inj h) rfl dX6_size_37
    · have h := if_f c1 h
      refine lv_iload_n hx hb dX6_size_12 rfl (lv_at hl 2 rfl) ?_
      refine lv_aload_n hx hb dX6_size_13 rfl (lv_at hl 0 rfl) ?_
      refine va_get (C := RX6) (T := TX6) (N := 24) (ci := 5) hx hb hts igX6 hown C.1 V.1 0 rfl rfl 15 (by decide) (hts _ kt_618) (fun _ h => h) rfl dX6_size_14 ?_
      refine lv_iload_n hx hb dX6_size_17 rfl (lv_at hl 3 rfl) ?_
      obtain ⟨i2, h⟩ := ck_e h
      refine va_iald hx hb C.1 V.1 13 0 rfl rfl i2 dX6_size_18 ?_
      refine lv_iload_n hx hb dX6_size_19 rfl (lv_at hl 1 rfl) ?_
      refine lv_icmp_ne (tgt := 27) hx hb dX6_size_20 (by decide) (fun c3 => ?_) (fun c3 => ?_)
      · have h := if_t c3 h
        refine lv_iconst (v := (0 : Int32)) hx hb dX6_size_27 (by decide) ?_
        refine lv_iadd hx hb dX6_size_28 ?_
        obtain ⟨w4, ew4, h⟩ := gl_e h
        refine gw_nmi ew4 ?_
        refine lv_istore_n (lv' := [(2, .int w4), (0, .ref (a 0)), (1, .int x1), (3, .int x3)]) hx hb dX6_size_29 rfl hl (by decide) rfl (fun ls hl => ?_)
        refine lv_iinc (v := (x3 + (1 : Int32))) (lv' := [(3, .int (x3 + (1 : Int32))), (2, .int w4), (0, .ref (a 0)), (1, .int x1)]) hx hb dX6_size_30 hl (k := 3) rfl rfl (by decide) rfl (fun ls hl => ?_)
        refine lv_goto (tgt := 4) hx hb dX6_size_33 (by decide) ?_
        exact ih x1 w4 (x3 + (1 : Int32)) _ _ _ V (lv_sub hl [2, 3, 1, 0] rfl) h
      · have h := if_nn c3 h
        refine lv_iconst (v := (1 : Int32)) hx hb dX6_size_23 (by decide) ?_
        refine lv_goto (tgt := 28) hx hb dX6_size_24 (by decide) ?_
        refine lv_iadd hx hb dX6_size_28 ?_
        obtain ⟨w5, ew5, h⟩ := gl_e h
        refine gw_nmi ew5 ?_
        refine lv_istore_n (lv' := [(2, .int w5), (0, .ref (a 0)), (1, .int x1), (3, .int x3)]) hx hb dX6_size_29 rfl hl (by decide) rfl (fun ls hl => ?_)
        refine lv_iinc (v := (x3 + (1 : Int32))) (lv' := [(3, .int (x3 + (1 : Int32))), (2, .int w5), (0, .ref (a 0)), (1, .int x1)]) hx hb dX6_size_30 hl (k := 3) rfl rfl (by decide) rfl (fun ls hl => ?_)
        refine lv_goto (tgt := 4) hx hb dX6_size_33 (by decide) ?_
        exact ih x1 w5 (x3 + (1 : Int32)) _ _ _ V (lv_sub hl [2, 3, 1, 0] rfl) h
set_option maxHeartbeats 4000000 in
theorem mX6_size {l : Launch} {D : va_G} {a : Nat → Nat} {cA : ClassId} {sz : Nat} {u : g_S} {p1 : Int32} {rv : Int32} (h : fm_size u p1 = some rv) : gw_Mi D vwCl [(cA, .int)] (mdA a) gY (mdW a cA) l yX6_size wxX6_size rmX6_size sz u [.ref (a 0), .int p1] rv u := by
  refine gw_Mof (Qc := fun z => va_Qi (gw_Pi rv u) (gw_W D vwCl (mdW a cA)) (rg (mdA a) z)) (cc := cX6_size) (maxL := 4) (ret := (some .int)) (by decide) rfl ?_
  intro p e s m below meth c B C V
  obtain ⟨hx, hb, hml, hown, hts, hr, hlk⟩ := id B
  have hl := lv_entry ([.ref (a 0), .int p1]) (n := 4) (Nat.le_of_ble_eq_true rfl)
  rw [lg_entry_eq]
  generalize (lg_sl ([.ref (a 0), .int p1]) ++ List.replicate (4 - (lg_sl ([.ref (a 0), .int p1])).length) Slot.unset).toArray = ls at hl ⊢
  have hl : lv_has ls 4 [(0, .ref (a 0)), (1, .int p1)] := hl
  unfold fm_size at h
  refine lv_iconst (v := (0 : Int32)) hx hb dX6_size_0 (by decide) ?_
  refine lv_istore_n (lv' := [(2, .int (0 : Int32)), (0, .ref (a 0)), (1, .int p1)]) hx hb dX6_size_1 rfl hl (by decide) rfl (fun ls hl => ?_)
  refine lv_iconst (v := (0 : Int32)) hx hb dX6_size_2 (by decide) ?_
  refine lv_istore_n (lv' := [(3, .int (0 : Int32)), (2, .int (0 : Int32)), (0, .ref (a 0)), (1, .int p1)]) hx hb dX6_size_3 rfl hl (by decide) rfl (fun ls hl => ?_)
  exact LX6_size_4 B C 200 p1 (0 : Int32) (0 : Int32) _ _ _ V (lv_sub hl [2, 3, 1, 0] rfl) h
set_option maxHeartbeats 4000000 in
theorem LX6_merge_115 {p : Program} {l : Launch} {e : Env} {s : State} {m : MethodId} {below : List Frame} {meth : Method} {c : Code} {args : Array Value} {D : va_G} {a : Nat → Nat} {cA : ClassId} (B : gw_B p s m args meth c cX6_merge 7 (some .int) RX6 gT) (C : gw_C D vwCl [(cA, .int)] (mdA a) gY s) {rv : Int32 × g_S} : ∀ (n : Nat) (x1 : Int32) (x2 : Int32) (x6 : Int32) (u : g_S) (H : Heap) (locs : List Loc) (ls : Array Slot), gw_V D vwCl (mdA a) (mdW a cA) s u H locs → lv_has ls 7 [(0, .ref (a 0)), (1, .int x1), (2, .int x2), (6, .int x6)] → fm_merge_115 n u x1 x2 x6 = some rv → W p l e rmX6_merge s m args below meth c H locs 0 0 (gw_Ei D vwCl (mdA a) (mdW a cA) below args s rv.1 rv.2) (F0 m 115 ls []) := by
  obtain ⟨hx, hb, hml, hown, hts, hr, hlk⟩ := id B
  intro n
  induction n with
  | zero =>
    intro x1 x2 x6 u H locs ls V hl h
    cases h
  | succ n ih =>
    intro x1 x2 x6 u H locs ls V hl h
    rw [fm_merge_115_s] at h
    refine lv_iload hx hb dX6_merge_115 (lv_at hl 3 rfl) ?_
    refine lv_aload_n hx hb dX6_merge_117 rfl (lv_at hl 0 rfl) ?_
    refine va_get (C := RX6) (T := TX6) (N := 24) (ci := 5) hx hb hts igX6 hown C.1 V.1 0 rfl rfl 8 (by decide) (hts _ kt_611) (fun _ h => h) rfl dX6_merge_118 ?_
    refine lv_icmp_ge (tgt := 154) hx hb dX6_merge_121 (by decide) (fun c1 => ?_) (fun c1 => ?_)
    · have h := if_t c1 h
      refine lv_aload_n hx hb dX6_merge_154 rfl (lv_at hl 0 rfl) ?_
      refine va_get (C := RX6) (T := TX6) (N := 24) (ci := 5) hx hb hts igX6 hown C.1 V.1 0 rfl rfl 19 (by decide) (hts _ kt_622) (fun _ h => h) rfl dX6_merge_155 ?_
      refine lv_iload_n hx hb dX6_merge_158 rfl (lv_at hl 1 rfl) ?_
      refine lv_iconst (v := (3 : Int32)) hx hb dX6_merge_159 (by decide) ?_
      obtain ⟨i2, h⟩ := ck_e h
      obtain ⟨u3, eu3, h⟩ := gl_e h
      refine gw_iast (u' := u3) hx hb (mdW_as a cA) C V 17 0 rfl rfl i2 (mdS_16 _ _ _ _ _ _ eu3) dX6_merge_160 (fun H locs V => ?_)
      refine lv_aload_n hx hb dX6_merge_161 rfl (lv_at hl 0 rfl) ?_
      refine va_get (C := RX6) (T := TX6) (N := 24) (ci := 5) hx hb hts igX6 hown C.1 V.1 0 rfl rfl 20 (by decide) (hts _ kt_623) (fun _ h => h) rfl dX6_merge_162 ?_
      refine lv_iload_n hx hb dX6_merge_165 rfl (lv_at hl 1 rfl) ?_
      refine lv_iconst (v := (-1 : Int32)) hx hb dX6_merge_166 (by decide) ?_
      obtain ⟨i4, h⟩ := ck_e h
      obtain ⟨u5, eu5, h⟩ := gl_e h
      refine gw_iast (u' := u5) hx hb (mdW_as a cA) C V 18 0 rfl rfl i4 (mdS_17 _ _ _ _ _ _ eu5) dX6_merge_167 (fun H locs V => ?_)
      refine lv_aload_n hx hb dX6_merge_168 rfl (lv_at hl 0 rfl) ?_
      refine lv_aload_n hx hb dX6_merge_169 rfl (lv_at hl 0 rfl) ?_
      refine va_get (C := RX6) (T := TX6) (N := 24) (ci := 5) hx hb hts igX6 hown C.1 V.1 0 rfl rfl 15 (by decide) (hts _ kt_618) (fun _ h => h) rfl dX6_merge_170 ?_
      refine lv_iload_n hx hb dX6_merge_173 rfl (lv_at hl 2 rfl) ?_
      obtain ⟨i6, h⟩ := ck_e h
      refine va_iald hx hb C.1 V.1 13 0 rfl rfl i6 dX6_merge_174 ?_
      obtain ⟨v7, hv7, h⟩ := bi_e h
      refine gw_ki V (va_runV (As := [.int (u5.2 12 x2.toNatClampNeg)]) (rest := []) ⟨hx, hb, hml, hown, hts⟩ (mX6_size (D := D) (a := a) (cA := cA) (u := u5) hv7) (cwV 1 hts gmdX6_173 rfl rfl rfl (by decide +kernel) ⟨Nat.le_of_ble_eq_true rfl, Nat.le_of_ble_eq_true rfl⟩) (gw_preV (q0 := 0) (ci := 5) gY_ok C V [.int (u5.2 12 x2.toNatClampNeg)] rfl rfl) rfl rfl hl.1 rfl (lv_room (Nat.le_of_ble_eq_true rfl)) dX6_merge_175 ⟨Nat.zero_le _, Nat.zero_le _⟩) (fun H locs V => ?_)
      exact gw_reti hx hb hr rfl hlk V (in2a h) (in2b h) dX6_merge_178
    · have h := if_f c1 h
      refine lv_aload_n hx hb dX6_merge_124 rfl (lv_at hl 0 rfl) ?_
      refine va_get (C := RX6) (T := TX6) (N := 24) (ci := 5) hx hb hts igX6 hown C.1 V.1 0 rfl rfl 15 (by decide) (hts _ kt_618) (fun _ h => h) rfl dX6_merge_125 ?_
      refine lv_iload hx hb dX6_merge_128 (lv_at hl 3 rfl) ?_
      obtain ⟨i8, h⟩ := ck_e h
      refine va_iald hx hb C.1 V.1 13 0 rfl rfl i8 dX6_merge_130 ?_
      refine lv_iload_n hx hb dX6_merge_131 rfl (lv_at hl 1 rfl) ?_
      refine lv_icmp_ne (tgt := 148) hx hb dX6_merge_132 (by decide) (fun c9 => ?_) (fun c9 => ?_)
      · have h := if_t c9 h
        refine lv_iinc (v := (x6 + (1 : Int32))) (lv' := [(6, .int (x6 + (1 : Int32))), (0, .ref (a 0)), (1, .int x1), (2, .int x2)]) hx hb dX6_merge_148 hl (k := 3) rfl rfl (by decide) rfl (fun ls hl => ?_)
        refine lv_goto (tgt := 115) hx hb dX6_merge_151 (by decide) ?_
        exact ih x1 x2 (x6 + (1 : Int32)) u _ _ _ V (lv_sub hl [1, 2, 3, 0] rfl) h
      · have h := if_nn c9 h
        refine lv_aload_n hx hb dX6_merge_135 rfl (lv_at hl 0 rfl) ?_
        refine va_get (C := RX6) (T := TX6) (N := 24) (ci := 5) hx hb hts igX6 hown C.1 V.1 0 rfl rfl 15 (by decide) (hts _ kt_618) (fun _ h => h) rfl dX6_merge_136 ?_
        refine lv_iload hx hb dX6_merge_139 (lv_at hl 3 rfl) ?_
        refine lv_aload_n hx hb dX6_merge_141 rfl (lv_at hl 0 rfl) ?_
        refine va_get (C := RX6) (T := TX6) (N := 24) (ci := 5) hx hb hts igX6 hown C.1 V.1 0 rfl rfl 15 (by decide) (hts _ kt_618) (fun _ h => h) rfl dX6_merge_142 ?_
        refine lv_iload_n hx hb dX6_merge_145 rfl (lv_at hl 2 rfl) ?_
        obtain ⟨i10, h⟩ := ck_e h
        refine va_iald hx hb C.1 V.1 13 0 rfl rfl i10 dX6_merge_146 ?_
        obtain ⟨i11, h⟩ := ck_e h
        obtain ⟨u12, eu12, h⟩ := gl_e h
        refine gw_iast (u' := u12) hx hb (mdW_as a cA) C V 13 0 rfl rfl i11 (mdS_12 _ _ _ _ _ _ eu12) dX6_merge_147 (fun H locs V => ?_)
        refine lv_iinc (v := (x6 + (1 : Int32))) (lv' := [(6, .int (x6 + (1 : Int32))), (0, .ref (a 0)), (1, .int x1), (2, .int x2)]) hx hb dX6_merge_148 hl (k := 3) rfl rfl (by decide) rfl (fun ls hl => ?_)
        refine lv_goto (tgt := 115) hx hb dX6_merge_151 (by decide) ?_
        exact ih x1 x2 (x6 + (1 : Int32)) u12 _ _ _ V (lv_sub hl [1, 2, 3, 0] rfl) h
set_option maxHeartbeats 4000000 in
theorem LX6_merge_80 {p : Program} {l : Launch} {e : Env} {s : State} {m : MethodId} {below : List Frame} {meth : Method} {c : Code} {args : Array Value} {D : va_G} {a : Nat → Nat} {cA : ClassId} (B : gw_B p s m args meth c cX6_merge 7 (some .int) RX6 gT) (C : gw_C D vwCl [(cA, .int)] (mdA a) gY s) {rv : Int32 × g_S} : ∀ (x1 : Int32) (x2 : Int32) (y1 : Int32) (y2 : Int32) (u : g_S) (H : Heap) (locs : List Loc) (ls : Array Slot), gw_V D vwCl (mdA a) (mdW a cA) s u H locs → lv_has ls 7 [(0, .ref (a 0)), (1, .int x1), (2, .int x2)] → fm_merge_80 u x1 x2 y1 y2 = some rv → W p l e rmX6_merge s m args below meth c H locs 0 0 (gw_Ei D vwCl (mdA a) (mdW a cA) below args s rv.1 rv.2) (F0 m 80 ls [.int y2, .int y1, .ref (a 0)]) := by
  obtain ⟨hx, hb, hml, hown, hts, hr, hlk⟩ := id B
  intro x1 x2 y1 y2 u H locs ls V hl h
  unfold fm_merge_80 at h
  refine lv_iconst (v := (0 : Int32)) hx hb dX6_merge_80 (by decide) ?_
  obtain ⟨v1, hv1, h⟩ := bi_e h
  refine gw_ki V (va_runV (As := [.int y1, .int y2, .int (0 : Int32)]) (rest := []) ⟨hx, hb, hml, hown, hts⟩ (mX6_throwing (D := D) (a := a) (cA := cA) (u := u) hv1) (cwV 3 hts gmdX6_90 rfl rfl rfl (by decide +kernel) ⟨Nat.le_of_ble_eq_true rfl, Nat.le_of_ble_eq_true rfl⟩) (gw_preV (q0 := 0) (ci := 5) gY_ok C V [.int y1, .int y2, .int (0 : Int32)] rfl rfl) rfl rfl hl.1 rfl (lv_room (Nat.le_of_ble_eq_true rfl)) dX6_merge_81 ⟨Nat.zero_le _, Nat.zero_le _⟩) (fun H locs V => ?_)
  refine lv_if_eq (tgt := 89) hx hb dX6_merge_84 (by decide) (fun c2 => ?_) (fun c2 => ?_)
  · have h := if_t c2 h
    refine lv_aload_n hx hb dX6_merge_89 rfl (lv_at hl 0 rfl) ?_
    refine lv_iload_n hx hb dX6_merge_90 rfl (lv_at hl 1 rfl) ?_
    obtain ⟨v3, hv3, h⟩ := bi_e h
    refine gw_ki V (va_runV (As := [.int x1]) (rest := []) ⟨hx, hb, hml, hown, hts⟩ (mX6_firstOf (D := D) (a := a) (cA := cA) (u := v1.2) hv3) (cwV 1 hts gmdX6_124 rfl rfl rfl (by decide +kernel) ⟨Nat.le_of_ble_eq_true rfl, Nat.le_of_ble_eq_true rfl⟩) (gw_preV (q0 := 0) (ci := 5) gY_ok C V [.int x1] rfl rfl) rfl rfl hl.1 rfl (lv_room (Nat.le_of_ble_eq_true rfl)) dX6_merge_91 ⟨Nat.zero_le _, Nat.zero_le _⟩) (fun H locs V => ?_)
    refine lv_istore (lv' := [(5, .int v3), (0, .ref (a 0)), (1, .int x1), (2, .int x2)]) hx hb dX6_merge_94 hl (by decide) rfl (fun ls hl => ?_)
    refine lv_aload_n hx hb dX6_merge_96 rfl (lv_at hl 1 rfl) ?_
    refine va_get (C := RX6) (T := TX6) (N := 24) (ci := 5) hx hb hts igX6 hown C.1 V.1 0 rfl rfl 16 (by decide) (hts _ kt_619) (fun _ h => h) rfl dX6_merge_97 ?_
    refine lv_iload hx hb dX6_merge_100 (lv_at hl 0 rfl) ?_
    refine lv_iload_n hx hb dX6_merge_102 rfl (lv_at hl 3 rfl) ?_
    obtain ⟨i4, h⟩ := ck_e h
    obtain ⟨u5, eu5, h⟩ := gl_e h
    refine gw_iast (u' := u5) hx hb (mdW_as a cA) C V 14 0 rfl rfl i4 (mdS_13 _ _ _ _ _ _ eu5) dX6_merge_103 (fun H locs V => ?_)
    refine lv_aload_n hx hb dX6_merge_104 rfl (lv_at hl 1 rfl) ?_
    refine va_get (C := RX6) (T := TX6) (N := 24) (ci := 5) hx hb hts igX6 hown C.1 V.1 0 rfl rfl 18 (by decide) (hts _ kt_621) (fun _ h => h) rfl dX6_merge_105 ?_
    refine lv_iload hx hb dX6_merge_108 (lv_at hl 0 rfl) ?_
    refine lv_iconst (v := (5 : Int32)) hx hb dX6_merge_110 (by decide) ?_
    obtain ⟨i6, h⟩ := ck_e h
    obtain ⟨u7, eu7, h⟩ := gl_e h
    refine gw_iast (u' := u7) hx hb (mdW_as a cA) C V 16 0 rfl rfl i6 (mdS_15 _ _ _ _ _ _ eu7) dX6_merge_111 (fun H locs V => ?_)
    refine lv_iconst (v := (0 : Int32)) hx hb dX6_merge_112 (by decide) ?_
    refine lv_istore (lv' := [(6, .int (0 : Int32)), (5, .int v3), (0, .ref (a 0)), (1, .int x1), (2, .int x2)]) hx hb dX6_merge_113 hl (by decide) rfl (fun ls hl => ?_)
    exact LX6_merge_115 B C 200 x1 x2 (0 : Int32) u7 _ _ _ V (lv_sub hl [2, 3, 4, 0] rfl) h
  · have h := if_f c2 h
    refine lv_iconst (v := (0 : Int32)) hx hb dX6_merge_87 (by decide) ?_
    exact gw_reti hx hb hr rfl hlk V (in2a h) (in2b h) dX6_merge_88
set_option maxHeartbeats 4000000 in
theorem LX6_merge_58 {p : Program} {l : Launch} {e : Env} {s : State} {m : MethodId} {below : List Frame} {meth : Method} {c : Code} {args : Array Value} {D : va_G} {a : Nat → Nat} {cA : ClassId} (B : gw_B p s m args meth c cX6_merge 7 (some .int) RX6 gT) (C : gw_C D vwCl [(cA, .int)] (mdA a) gY s) {rv : Int32 × g_S} : ∀ (x1 : Int32) (x2 : Int32) (x3 : Int32) (y0 : Int32) (u : g_S) (H : Heap) (locs : List Loc) (ls : Array Slot), gw_V D vwCl (mdA a) (mdW a cA) s u H locs → lv_has ls 7 [(0, .ref (a 0)), (1, .int x1), (2, .int x2), (3, .int x3)] → fm_merge_58 u x1 x2 x3 y0 = some rv → W p l e rmX6_merge s m args below meth c H locs 0 0 (gw_Ei D vwCl (mdA a) (mdW a cA) below args s rv.1 rv.2) (F0 m 58 ls [.int y0]) := by
  obtain ⟨hx, hb, hml, hown, hts, hr, hlk⟩ := id B
  intro x1 x2 x3 y0 u H locs ls V hl h
  unfold fm_merge_58 at h
  refine lv_istore (lv' := [(4, .int y0), (0, .ref (a 0)), (1, .int x1), (2, .int x2), (3, .int x3)]) hx hb dX6_merge_58 hl (by decide) rfl (fun ls hl => ?_)
  refine lv_aload_n hx hb dX6_merge_60 rfl (lv_at hl 1 rfl) ?_
  refine lv_iload_n hx hb dX6_merge_61 rfl (lv_at hl 4 rfl) ?_
  refine lv_if_ne (tgt := 69) hx hb dX6_merge_62 (by decide) (fun c1 => ?_) (fun c1 => ?_)
  · have h := if_t c1 h
    refine lv_iconst (v := (0 : Int32)) hx hb dX6_merge_69 (by decide) ?_
    refine lv_iload hx hb dX6_merge_70 (lv_at hl 0 rfl) ?_
    refine lv_if_ne (tgt := 79) hx hb dX6_merge_72 (by decide) (fun c2 => ?_) (fun c2 => ?_)
    · have h := if_t c2 h
      refine lv_iconst (v := (0 : Int32)) hx hb dX6_merge_79 (by decide) ?_
      exact LX6_merge_80 B C x1 x2 (0 : Int32) (0 : Int32) u _ _ _ V (lv_sub hl [1, 2, 3] rfl) h
    · have h := if_nn c2 h
      refine lv_iconst (v := (1 : Int32)) hx hb dX6_merge_75 (by decide) ?_
      refine lv_goto (tgt := 80) hx hb dX6_merge_76 (by decide) ?_
      exact LX6_merge_80 B C x1 x2 (0 : Int32) (1 : Int32) u _ _ _ V (lv_sub hl [1, 2, 3] rfl) h
  · have h := if_nn c1 h
    refine lv_iconst (v := (1 : Int32)) hx hb dX6_merge_65 (by decide) ?_
    refine lv_goto (tgt := 70) hx hb dX6_merge_66 (by decide) ?_
    refine lv_iload hx hb dX6_merge_70 (lv_at hl 0 rfl) ?_
    refine lv_if_ne (tgt := 79) hx hb dX6_merge_72 (by decide) (fun c3 => ?_) (fun c3 => ?_)
    · have h := if_t c3 h
      refine lv_iconst (v := (0 : Int32)) hx hb dX6_merge_79 (by decide) ?_
      exact LX6_merge_80 B C x1 x2 (1 : Int32) (0 : Int32) u _ _ _ V (lv_sub hl [1, 2, 3] rfl) h
    · have h := if_nn c3 h
      refine lv_iconst (v := (1 : Int32)) hx hb dX6_merge_75 (by decide) ?_
      refine lv_goto (tgt := 80) hx hb dX6_merge_76 (by decide) ?_
      exact LX6_merge_80 B C x1 x2 (1 : Int32) (1 : Int32) u _ _ _ V (lv_sub hl [1, 2, 3] rfl) h
set_option maxHeartbeats 4000000 in
theorem LX6_merge_21 {p : Program} {l : Launch} {e : Env} {s : State} {m : MethodId} {below : List Frame} {meth : Method} {c : Code} {args : Array Value} {D : va_G} {a : Nat → Nat} {cA : ClassId} (B : gw_B p s m args meth c cX6_merge 7 (some .int) RX6 gT) (C : gw_C D vwCl [(cA, .int)] (mdA a) gY s) {rv : Int32 × g_S} : ∀ (x1 : Int32) (x2 : Int32) (y0 : Int32) (u : g_S) (H : Heap) (locs : List Loc) (ls : Array Slot), gw_V D vwCl (mdA a) (mdW a cA) s u H locs → lv_has ls 7 [(0, .ref (a 0)), (1, .int x1), (2, .int x2)] → fm_merge_21 u x1 x2 y0 = some rv → W p l e rmX6_merge s m args below meth c H locs 0 0 (gw_Ei D vwCl (mdA a) (mdW a cA) below args s rv.1 rv.2) (F0 m 21 ls [.int y0]) := by
  obtain ⟨hx, hb, hml, hown, hts, hr, hlk⟩ := id B
  intro x1 x2 y0 u H locs ls V hl h
  unfold fm_merge_21 at h
  refine lv_istore_n (lv' := [(3, .int y0), (0, .ref (a 0)), (1, .int x1), (2, .int x2)]) hx hb dX6_merge_21 rfl hl (by decide) rfl (fun ls hl => ?_)
  refine lv_iload_n hx hb dX6_merge_22 rfl (lv_at hl 0 rfl) ?_
  refine lv_if_eq (tgt := 57) hx hb dX6_merge_23 (by decide) (fun c1 => ?_) (fun c1 => ?_)
  · have h := if_t c1 h
    refine lv_iconst (v := (0 : Int32)) hx hb dX6_merge_57 (by decide) ?_
    exact LX6_merge_58 B C x1 x2 y0 (0 : Int32) u _ _ _ V (lv_sub hl [1, 2, 3, 0] rfl) h
  · have h := if_f c1 h
    refine lv_aload_n hx hb dX6_merge_26 rfl (lv_at hl 1 rfl) ?_
    refine va_get (C := RX6) (T := TX6) (N := 24) (ci := 5) hx hb hts igX6 hown C.1 V.1 0 rfl rfl 19 (by decide) (hts _ kt_622) (fun _ h => h) rfl dX6_merge_27 ?_
    refine lv_iload_n hx hb dX6_merge_30 rfl (lv_at hl 2 rfl) ?_
    obtain ⟨i2, h⟩ := ck_e h
    refine va_iald hx hb C.1 V.1 17 0 rfl rfl i2 dX6_merge_31 ?_
    refine lv_if_ne (tgt := 57) hx hb dX6_merge_32 (by decide) (fun c3 => ?_) (fun c3 => ?_)
    · have h := if_t c3 h
      refine lv_iconst (v := (0 : Int32)) hx hb dX6_merge_57 (by decide) ?_
      exact LX6_merge_58 B C x1 x2 y0 (0 : Int32) u _ _ _ V (lv_sub hl [1, 2, 3, 0] rfl) h
    · have h := if_nn c3 h
      refine lv_aload_n hx hb dX6_merge_35 rfl (lv_at hl 1 rfl) ?_
      refine lv_iload_n hx hb dX6_merge_36 rfl (lv_at hl 3 rfl) ?_
      obtain ⟨v4, hv4, h⟩ := bi_e h
      refine gw_ki V (va_runV (As := [.int x2]) (rest := []) ⟨hx, hb, hml, hown, hts⟩ (mX6_isOpen (D := D) (a := a) (cA := cA) (u := u) hv4) (cwV 1 hts gmdX6_118 rfl rfl rfl (by decide +kernel) ⟨Nat.le_of_ble_eq_true rfl, Nat.le_of_ble_eq_true rfl⟩) (gw_preV (q0 := 0) (ci := 5) gY_ok C V [.int x2] rfl rfl) rfl rfl hl.1 rfl (lv_room (Nat.le_of_ble_eq_true rfl)) dX6_merge_37 ⟨Nat.zero_le _, Nat.zero_le _⟩) (fun H locs V => ?_)
      refine lv_if_eq (tgt := 57) hx hb dX6_merge_40 (by decide) (fun c5 => ?_) (fun c5 => ?_)
      · have h := if_t c5 h
        refine lv_iconst (v := (0 : Int32)) hx hb dX6_merge_57 (by decide) ?_
        exact LX6_merge_58 B C x1 x2 y0 (0 : Int32) u _ _ _ V (lv_sub hl [1, 2, 3, 0] rfl) h
      · have h := if_f c5 h
        refine lv_aload_n hx hb dX6_merge_43 rfl (lv_at hl 1 rfl) ?_
        refine va_get (C := RX6) (T := TX6) (N := 24) (ci := 5) hx hb hts igX6 hown C.1 V.1 0 rfl rfl 15 (by decide) (hts _ kt_618) (fun _ h => h) rfl dX6_merge_44 ?_
        refine lv_iload_n hx hb dX6_merge_47 rfl (lv_at hl 3 rfl) ?_
        obtain ⟨i6, h⟩ := ck_e h
        refine va_iald hx hb C.1 V.1 13 0 rfl rfl i6 dX6_merge_48 ?_
        refine lv_iload_n hx hb dX6_merge_49 rfl (lv_at hl 2 rfl) ?_
        refine lv_icmp_eq (tgt := 57) hx hb dX6_merge_50 (by decide) (fun c7 => ?_) (fun c7 => ?_)
        · have h := if_t c7 h
          refine lv_iconst (v := (0 : Int32)) hx hb dX6_merge_57 (by decide) ?_
          exact LX6_merge_58 B C x1 x2 y0 (0 : Int32) u _ _ _ V (lv_sub hl [1, 2, 3, 0] rfl) h
        · have h := if_f c7 h
          refine lv_iconst (v := (1 : Int32)) hx hb dX6_merge_53 (by decide) ?_
          refine lv_goto (tgt := 58) hx hb dX6_merge_54 (by decide) ?_
          exact LX6_merge_58 B C x1 x2 y0 (1 : Int32) u _ _ _ V (lv_sub hl [1, 2, 3, 0] rfl) h
set_option maxHeartbeats 4000000 in
theorem mX6_merge {l : Launch} {D : va_G} {a : Nat → Nat} {cA : ClassId} {sz : Nat} {u : g_S} {p1 : Int32} {p2 : Int32} {rv : Int32 × g_S} (h : fm_merge u p1 p2 = some rv) : gw_Mi D vwCl [(cA, .int)] (mdA a) gY (mdW a cA) l yX6_merge wxX6_merge rmX6_merge sz u [.ref (a 0), .int p1, .int p2] rv.1 rv.2 := by
  refine gw_Mof (Qc := fun z => va_Qi (gw_Pi rv.1 rv.2) (gw_W D vwCl (mdW a cA)) (rg (mdA a) z)) (cc := cX6_merge) (maxL := 7) (ret := (some .int)) (by decide) rfl ?_
  intro p e s m below meth c B C V
  obtain ⟨hx, hb, hml, hown, hts, hr, hlk⟩ := id B
  have hl := lv_entry ([.ref (a 0), .int p1, .int p2]) (n := 7) (Nat.le_of_ble_eq_true rfl)
  rw [lg_entry_eq]
  generalize (lg_sl ([.ref (a 0), .int p1, .int p2]) ++ List.replicate (7 - (lg_sl ([.ref (a 0), .int p1, .int p2])).length) Slot.unset).toArray = ls at hl ⊢
  have hl : lv_has ls 7 [(0, .ref (a 0)), (1, .int p1), (2, .int p2)] := hl
  unfold fm_merge at h
  refine lv_aload_n hx hb dX6_merge_0 rfl (lv_at hl 0 rfl) ?_
  refine lv_iload_n hx hb dX6_merge_1 rfl (lv_at hl 1 rfl) ?_
  obtain ⟨v1, hv1, h⟩ := bi_e h
  refine gw_ki V (va_runV (As := [.int p1]) (rest := []) ⟨hx, hb, hml, hown, hts⟩ (mX6_isEvent (D := D) (a := a) (cA := cA) (u := u) hv1) (cwV 1 hts gmdX6_170 rfl rfl rfl (by decide +kernel) ⟨Nat.le_of_ble_eq_true rfl, Nat.le_of_ble_eq_true rfl⟩) (gw_preV (q0 := 0) (ci := 5) gY_ok C V [.int p1] rfl rfl) rfl rfl hl.1 rfl (lv_room (Nat.le_of_ble_eq_true rfl)) dX6_merge_2 ⟨Nat.zero_le _, Nat.zero_le _⟩) (fun H locs V => ?_)
  refine lv_if_eq (tgt := 20) hx hb dX6_merge_5 (by decide) (fun c2 => ?_) (fun c2 => ?_)
  · have h := if_t c2 h
    refine lv_iconst (v := (0 : Int32)) hx hb dX6_merge_20 (by decide) ?_
    exact LX6_merge_21 B C p1 p2 (0 : Int32) u _ _ _ V (lv_sub hl [0, 1, 2] rfl) h
  · have h := if_f c2 h
    refine lv_aload_n hx hb dX6_merge_8 rfl (lv_at hl 0 rfl) ?_
    refine lv_iload_n hx hb dX6_merge_9 rfl (lv_at hl 2 rfl) ?_
    obtain ⟨v3, hv3, h⟩ := bi_e h
    refine gw_ki V (va_runV (As := [.int p2]) (rest := []) ⟨hx, hb, hml, hown, hts⟩ (mX6_isCall (D := D) (a := a) (cA := cA) (u := u) hv3) (cwV 1 hts gmdX6_167 rfl rfl rfl (by decide +kernel) ⟨Nat.le_of_ble_eq_true rfl, Nat.le_of_ble_eq_true rfl⟩) (gw_preV (q0 := 0) (ci := 5) gY_ok C V [.int p2] rfl rfl) rfl rfl hl.1 rfl (lv_room (Nat.le_of_ble_eq_true rfl)) dX6_merge_10 ⟨Nat.zero_le _, Nat.zero_le _⟩) (fun H locs V => ?_)
    refine lv_if_eq (tgt := 20) hx hb dX6_merge_13 (by decide) (fun c4 => ?_) (fun c4 => ?_)
    · have h := if_t c4 h
      refine lv_iconst (v := (0 : Int32)) hx hb dX6_merge_20 (by decide) ?_
      exact LX6_merge_21 B C p1 p2 (0 : Int32) u _ _ _ V (lv_sub hl [0, 1, 2] rfl) h
    · have h := if_f c4 h
      refine lv_iconst (v := (1 : Int32)) hx hb dX6_merge_16 (by decide) ?_
      refine lv_goto (tgt := 21) hx hb dX6_merge_17 (by decide) ?_
      exact LX6_merge_21 B C p1 p2 (1 : Int32) u _ _ _ V (lv_sub hl [0, 1, 2] rfl) h
set_option maxHeartbeats 4000000 in
theorem LX6_watch_113 {p : Program} {l : Launch} {e : Env} {s : State} {m : MethodId} {below : List Frame} {meth : Method} {c : Code} {args : Array Value} {D : va_G} {a : Nat → Nat} {cA : ClassId} (B : gw_B p s m args meth c cX6_watch 7 none RX6 gT) (C : gw_C D vwCl [(cA, .int)] (mdA a) gY s) {rv : g_S} : ∀ (x1 : Int32) (x2 : Int32) (x3 : Int32) (x4 : Int32) (y1 : Int32) (y2 : Int32) (y3 : Int32) (u : g_S) (H : Heap) (locs : List Loc) (ls : Array Slot), gw_V D vwCl (mdA a) (mdW a cA) s u H locs → lv_has ls 7 [(0, .ref (a 0)), (1, .int x1), (2, .int x2), (3, .int x3), (4, .int x4)] → fm_watch_113 u x1 x2 x3 x4 y1 y2 y3 = some rv → W p l e rmX6_watch s m args below meth c H locs 0 0 (gw_Ev D vwCl (mdA a) (mdW a cA) below args s rv) (F0 m 113 ls [.int y3, .int y2, .int y1, .ref (a 0)]) := by
  obtain ⟨hx, hb, hml, hown, hts, hr, hlk⟩ := id B
  intro x1 x2 x3 x4 y1 y2 y3 u H locs ls V hl h
  unfold fm_watch_113 at h
  obtain ⟨v1, hv1, h⟩ := bi_e h
  refine gw_ki V (va_runV (As := [.int y1, .int y2, .int y3]) (rest := []) ⟨hx, hb, hml, hown, hts⟩ (mX6_throwing (D := D) (a := a) (cA := cA) (u := u) hv1) (cwV 3 hts gmdX6_90 rfl rfl rfl (by decide +kernel) ⟨Nat.le_of_ble_eq_true rfl, Nat.le_of_ble_eq_true rfl⟩) (gw_preV (q0 := 0) (ci := 5) gY_ok C V [.int y1, .int y2, .int y3] rfl rfl) rfl rfl hl.1 rfl (lv_room (Nat.le_of_ble_eq_true rfl)) dX6_watch_113 ⟨Nat.zero_le _, Nat.zero_le _⟩) (fun H locs V => ?_)
  refine lv_if_eq (tgt := 120) hx hb dX6_watch_116 (by decide) (fun c2 => ?_) (fun c2 => ?_)
  · have h := if_t c2 h
    refine lv_aload_n hx hb dX6_watch_120 rfl (lv_at hl 0 rfl) ?_
    refine va_get (C := RX6) (T := TX6) (N := 24) (ci := 5) hx hb hts igX6 hown C.1 V.1 0 rfl rfl 20 (by decide) (hts _ kt_623) (fun _ h => h) rfl dX6_watch_121 ?_
    refine lv_iload_n hx hb dX6_watch_124 rfl (lv_at hl 1 rfl) ?_
    refine lv_iload_n hx hb dX6_watch_125 rfl (lv_at hl 2 rfl) ?_
    obtain ⟨i3, h⟩ := ck_e h
    obtain ⟨u4, eu4, h⟩ := gl_e h
    refine gw_iast (u' := u4) hx hb (mdW_as a cA) C V 18 0 rfl rfl i3 (mdS_17 _ _ _ _ _ _ eu4) dX6_watch_126 (fun H locs V => ?_)
    refine lv_aload_n hx hb dX6_watch_127 rfl (lv_at hl 0 rfl) ?_
    refine va_get (C := RX6) (T := TX6) (N := 24) (ci := 5) hx hb hts igX6 hown C.1 V.1 0 rfl rfl 21 (by decide) (hts _ kt_624) (fun _ h => h) rfl dX6_watch_128 ?_
    refine lv_iload_n hx hb dX6_watch_131 rfl (lv_at hl 1 rfl) ?_
    refine lv_iload_n hx hb dX6_watch_132 rfl (lv_at hl 3 rfl) ?_
    obtain ⟨i5, h⟩ := ck_e h
    obtain ⟨u6, eu6, h⟩ := gl_e h
    refine gw_iast (u' := u6) hx hb (mdW_as a cA) C V 19 0 rfl rfl i5 (mdS_18 _ _ _ _ _ _ eu6) dX6_watch_133 (fun H locs V => ?_)
    refine lv_aload_n hx hb dX6_watch_134 rfl (lv_at hl 0 rfl) ?_
    refine va_get (C := RX6) (T := TX6) (N := 24) (ci := 5) hx hb hts igX6 hown C.1 V.1 0 rfl rfl 22 (by decide) (hts _ kt_625) (fun _ h => h) rfl dX6_watch_135 ?_
    refine lv_iload_n hx hb dX6_watch_138 rfl (lv_at hl 1 rfl) ?_
    refine lv_iload hx hb dX6_watch_139 (lv_at hl 4 rfl) ?_
    obtain ⟨i7, h⟩ := ck_e h
    obtain ⟨u8, eu8, h⟩ := gl_e h
    refine gw_iast (u' := u8) hx hb (mdW_as a cA) C V 20 0 rfl rfl i7 (mdS_19 _ _ _ _ _ _ eu8) dX6_watch_141 (fun H locs V => ?_)
    exact gw_retv hx hb hr hlk V (Option.some.inj h) dX6_watch_142
  · have h := if_f c2 h
    exact gw_retv hx hb hr hlk V (Option.some.inj h) dX6_watch_119
set_option maxHeartbeats 4000000 in
theorem LX6_watch_94 {p : Program} {l : Launch} {e : Env} {s : State} {m : MethodId} {below : List Frame} {meth : Method} {c : Code} {args : Array Value} {D : va_G} {a : Nat → Nat} {cA : ClassId} (B : gw_B p s m args meth c cX6_watch 7 none RX6 gT) (C : gw_C D vwCl [(cA, .int)] (mdA a) gY s) {rv : g_S} : ∀ (x1 : Int32) (x2 : Int32) (x3 : Int32) (x4 : Int32) (x5 : Int32) (y1 : Int32) (y2 : Int32) (u : g_S) (H : Heap) (locs : List Loc) (ls : Array Slot), gw_V D vwCl (mdA a) (mdW a cA) s u H locs → lv_has ls 7 [(0, .ref (a 0)), (1, .int x1), (2, .int x2), (3, .int x3), (4, .int x4), (5, .int x5)] → fm_watch_94 u x1 x2 x3 x4 x5 y1 y2 = some rv → W p l e rmX6_watch s m args below meth c H locs 0 0 (gw_Ev D vwCl (mdA a) (mdW a cA) below args s rv) (F0 m 94 ls [.int y2, .int y1, .ref (a 0)]) := by
  obtain ⟨hx, hb, hml, hown, hts, hr, hlk⟩ := id B
  intro x1 x2 x3 x4 x5 y1 y2 u H locs ls V hl h
  unfold fm_watch_94 at h
  refine lv_iload hx hb dX6_watch_94 (lv_at hl 5 rfl) ?_
  refine lv_if_eq (tgt := 112) hx hb dX6_watch_96 (by decide) (fun c1 => ?_) (fun c1 => ?_)
  · have h := if_t c1 h
    refine lv_iconst (v := (0 : Int32)) hx hb dX6_watch_112 (by decide) ?_
    exact LX6_watch_113 B C x1 x2 x3 x4 y1 y2 (0 : Int32) u _ _ _ V (lv_sub hl [0, 1, 2, 3, 4] rfl) h
  · have h := if_f c1 h
    refine lv_aload_n hx hb dX6_watch_99 rfl (lv_at hl 0 rfl) ?_
    refine va_get (C := RX6) (T := TX6) (N := 24) (ci := 5) hx hb hts igX6 hown C.1 V.1 0 rfl rfl 19 (by decide) (hts _ kt_622) (fun _ h => h) rfl dX6_watch_100 ?_
    refine lv_iload_n hx hb dX6_watch_103 rfl (lv_at hl 1 rfl) ?_
    obtain ⟨i2, h⟩ := ck_e h
    refine va_iald hx hb C.1 V.1 17 0 rfl rfl i2 dX6_watch_104 ?_
    refine lv_if_eq (tgt := 112) hx hb dX6_watch_105 (by decide) (fun c3 => ?_) (fun c3 => ?_)
    · have h := if_t c3 h
      refine lv_iconst (v := (0 : Int32)) hx hb dX6_watch_112 (by decide) ?_
      exact LX6_watch_113 B C x1 x2 x3 x4 y1 y2 (0 : Int32) u _ _ _ V (lv_sub hl [0, 1, 2, 3, 4] rfl) h
    · have h := if_f c3 h
      refine lv_iconst (v := (1 : Int32)) hx hb dX6_watch_108 (by decide) ?_
      refine lv_goto (tgt := 113) hx hb dX6_watch_109 (by decide) ?_
      exact LX6_watch_113 B C x1 x2 x3 x4 y1 y2 (1 : Int32) u _ _ _ V (lv_sub hl [0, 1, 2, 3, 4] rfl) h
set_option maxHeartbeats 4000000 in
theorem LX6_watch_71 {p : Program} {l : Launch} {e : Env} {s : State} {m : MethodId} {below : List Frame} {meth : Method} {c : Code} {args : Array Value} {D : va_G} {a : Nat → Nat} {cA : ClassId} (B : gw_B p s m args meth c cX6_watch 7 none RX6 gT) (C : gw_C D vwCl [(cA, .int)] (mdA a) gY s) {rv : g_S} : ∀ (x1 : Int32) (x2 : Int32) (x3 : Int32) (x4 : Int32) (x5 : Int32) (y0 : Int32) (u : g_S) (H : Heap) (locs : List Loc) (ls : Array Slot), gw_V D vwCl (mdA a) (mdW a cA) s u H locs → lv_has ls 7 [(0, .ref (a 0)), (1, .int x1), (2, .int x2), (3, .int x3), (4, .int x4), (5, .int x5)] → fm_watch_71 u x1 x2 x3 x4 x5 y0 = some rv → W p l e rmX6_watch s m args below meth c H locs 0 0 (gw_Ev D vwCl (mdA a) (mdW a cA) below args s rv) (F0 m 71 ls [.int y0]) := by
  obtain ⟨hx, hb, hml, hown, hts, hr, hlk⟩ := id B
  intro x1 x2 x3 x4 x5 y0 u H locs ls V hl h
  unfold fm_watch_71 at h
  refine lv_istore (lv' := [(6, .int y0), (0, .ref (a 0)), (1, .int x1), (2, .int x2), (3, .int x3), (4, .int x4), (5, .int x5)]) hx hb dX6_watch_71 hl (by decide) rfl (fun ls hl => ?_)
  refine lv_aload_n hx hb dX6_watch_73 rfl (lv_at hl 1 rfl) ?_
  refine lv_iload hx hb dX6_watch_74 (lv_at hl 6 rfl) ?_
  refine lv_if_ne (tgt := 83) hx hb dX6_watch_76 (by decide) (fun c1 => ?_) (fun c1 => ?_)
  · have h := if_t c1 h
    refine lv_iconst (v := (0 : Int32)) hx hb dX6_watch_83 (by decide) ?_
    refine lv_iload hx hb dX6_watch_84 (lv_at hl 0 rfl) ?_
    refine lv_if_ne (tgt := 93) hx hb dX6_watch_86 (by decide) (fun c2 => ?_) (fun c2 => ?_)
    · have h := if_t c2 h
      refine lv_iconst (v := (0 : Int32)) hx hb dX6_watch_93 (by decide) ?_
      exact LX6_watch_94 B C x1 x2 x3 x4 x5 (0 : Int32) (0 : Int32) u _ _ _ V (lv_sub hl [1, 2, 3, 4, 5, 6] rfl) h
    · have h := if_nn c2 h
      refine lv_iconst (v := (1 : Int32)) hx hb dX6_watch_89 (by decide) ?_
      refine lv_goto (tgt := 94) hx hb dX6_watch_90 (by decide) ?_
      exact LX6_watch_94 B C x1 x2 x3 x4 x5 (0 : Int32) (1 : Int32) u _ _ _ V (lv_sub hl [1, 2, 3, 4, 5, 6] rfl) h
  · have h := if_nn c1 h
    refine lv_iconst (v := (1 : Int32)) hx hb dX6_watch_79 (by decide) ?_
    refine lv_goto (tgt := 84) hx hb dX6_watch_80 (by decide) ?_
    refine lv_iload hx hb dX6_watch_84 (lv_at hl 0 rfl) ?_
    refine lv_if_ne (tgt := 93) hx hb dX6_watch_86 (by decide) (fun c3 => ?_) (fun c3 => ?_)
    · have h := if_t c3 h
      refine lv_iconst (v := (0 : Int32)) hx hb dX6_watch_93 (by decide) ?_
      exact LX6_watch_94 B C x1 x2 x3 x4 x5 (1 : Int32) (0 : Int32) u _ _ _ V (lv_sub hl [1, 2, 3, 4, 5, 6] rfl) h
    · have h := if_nn c3 h
      refine lv_iconst (v := (1 : Int32)) hx hb dX6_watch_89 (by decide) ?_
      refine lv_goto (tgt := 94) hx hb dX6_watch_90 (by decide) ?_
      exact LX6_watch_94 B C x1 x2 x3 x4 x5 (1 : Int32) (1 : Int32) u _ _ _ V (lv_sub hl [1, 2, 3, 4, 5, 6] rfl) h
set_option maxHeartbeats 4000000 in
theorem LX6_watch_20 {p : Program} {l : Launch} {e : Env} {s : State} {m : MethodId} {below : List Frame} {meth : Method} {c : Code} {args : Array Value} {D : va_G} {a : Nat → Nat} {cA : ClassId} (B : gw_B p s m args meth c cX6_watch 7 none RX6 gT) (C : gw_C D vwCl [(cA, .int)] (mdA a) gY s) {rv : g_S} : ∀ (x1 : Int32) (x2 : Int32) (x3 : Int32) (x4 : Int32) (y0 : Int32) (u : g_S) (H : Heap) (locs : List Loc) (ls : Array Slot), gw_V D vwCl (mdA a) (mdW a cA) s u H locs → lv_has ls 7 [(0, .ref (a 0)), (1, .int x1), (2, .int x2), (3, .int x3), (4, .int x4)] → fm_watch_20 u x1 x2 x3 x4 y0 = some rv → W p l e rmX6_watch s m args below meth c H locs 0 0 (gw_Ev D vwCl (mdA a) (mdW a cA) below args s rv) (F0 m 20 ls [.int y0]) := by
  obtain ⟨hx, hb, hml, hown, hts, hr, hlk⟩ := id B
  intro x1 x2 x3 x4 y0 u H locs ls V hl h
  unfold fm_watch_20 at h
  refine lv_istore (lv' := [(5, .int y0), (0, .ref (a 0)), (1, .int x1), (2, .int x2), (3, .int x3), (4, .int x4)]) hx hb dX6_watch_20 hl (by decide) rfl (fun ls hl => ?_)
  refine lv_iload hx hb dX6_watch_22 (lv_at hl 0 rfl) ?_
  refine lv_if_eq (tgt := 70) hx hb dX6_watch_24 (by decide) (fun c1 => ?_) (fun c1 => ?_)
  · have h := if_t c1 h
    refine lv_iconst (v := (0 : Int32)) hx hb dX6_watch_70 (by decide) ?_
    exact LX6_watch_71 B C x1 x2 x3 x4 y0 (0 : Int32) u _ _ _ V (lv_sub hl [1, 2, 3, 4, 5, 0] rfl) h
  · have h := if_f c1 h
    refine lv_iload_n hx hb dX6_watch_27 rfl (lv_at hl 4 rfl) ?_
    refine lv_iconst (v := (0 : Int32)) hx hb dX6_watch_28 (by decide) ?_
    refine lv_aload_n hx hb dX6_watch_29 rfl (lv_at hl 1 rfl) ?_
    refine va_get (C := RX6) (T := TX6) (N := 24) (ci := 5) hx hb hts igX6 hown C.1 V.1 0 rfl rfl 6 (by decide) (hts _ kt_609) (fun _ h => h) rfl dX6_watch_30 ?_
    refine lv_iload_n hx hb dX6_watch_33 rfl (lv_at hl 3 rfl) ?_
    obtain ⟨i2, h⟩ := ck_e h
    refine va_iald hx hb C.1 V.1 6 0 rfl rfl i2 dX6_watch_34 ?_
    refine lv_iconst (v := (1 : Int32)) hx hb dX6_watch_35 (by decide) ?_
    refine lv_isub hx hb dX6_watch_36 ?_
    obtain ⟨v3, hv3, h⟩ := bi_e h
    refine gw_ki V (va_runS (As := [.int x3, .int (0 : Int32), .int ((u.2 5 x2.toNatClampNeg) - (1 : Int32))]) (rest := []) ⟨hx, hb, hml, hown, hts⟩ (mX6_in (D := D) (a := a) (cA := cA) (u := u) hv3) (cwS 3 hts gmdX6_74 rfl rfl rfl (by decide +kernel) ⟨Nat.le_of_ble_eq_true rfl, Nat.le_of_ble_eq_true rfl⟩) (gw_preS gY_ok C V [.int x3, .int (0 : Int32), .int ((u.2 5 x2.toNatClampNeg) - (1 : Int32))]) rfl rfl hl.1 rfl (lv_room (Nat.le_of_ble_eq_true rfl)) dX6_watch_37 ⟨Nat.zero_le _, Nat.zero_le _⟩) (fun H locs V => ?_)
    refine lv_if_eq (tgt := 70) hx hb dX6_watch_40 (by decide) (fun c4 => ?_) (fun c4 => ?_)
    · have h := if_t c4 h
      refine lv_iconst (v := (0 : Int32)) hx hb dX6_watch_70 (by decide) ?_
      exact LX6_watch_71 B C x1 x2 x3 x4 y0 (0 : Int32) u _ _ _ V (lv_sub hl [1, 2, 3, 4, 5, 0] rfl) h
    · have h := if_f c4 h
      refine lv_iload hx hb dX6_watch_43 (lv_at hl 5 rfl) ?_
      refine lv_iconst (v := (0 : Int32)) hx hb dX6_watch_45 (by decide) ?_
      refine lv_aload_n hx hb dX6_watch_46 rfl (lv_at hl 1 rfl) ?_
      refine va_get (C := RX6) (T := TX6) (N := 24) (ci := 5) hx hb hts igX6 hown C.1 V.1 0 rfl rfl 6 (by decide) (hts _ kt_609) (fun _ h => h) rfl dX6_watch_47 ?_
      refine lv_iload_n hx hb dX6_watch_50 rfl (lv_at hl 3 rfl) ?_
      obtain ⟨i5, h⟩ := ck_e h
      refine va_iald hx hb C.1 V.1 6 0 rfl rfl i5 dX6_watch_51 ?_
      refine lv_iconst (v := (1 : Int32)) hx hb dX6_watch_52 (by decide) ?_
      refine lv_isub hx hb dX6_watch_53 ?_
      obtain ⟨v6, hv6, h⟩ := bi_e h
      refine gw_ki V (va_runS (As := [.int x4, .int (0 : Int32), .int ((u.2 5 x2.toNatClampNeg) - (1 : Int32))]) (rest := []) ⟨hx, hb, hml, hown, hts⟩ (mX6_in (D := D) (a := a) (cA := cA) (u := u) hv6) (cwS 3 hts gmdX6_74 rfl rfl rfl (by decide +kernel) ⟨Nat.le_of_ble_eq_true rfl, Nat.le_of_ble_eq_true rfl⟩) (gw_preS gY_ok C V [.int x4, .int (0 : Int32), .int ((u.2 5 x2.toNatClampNeg) - (1 : Int32))]) rfl rfl hl.1 rfl (lv_room (Nat.le_of_ble_eq_true rfl)) dX6_watch_54 ⟨Nat.zero_le _, Nat.zero_le _⟩) (fun H locs V => ?_)
      refine lv_if_eq (tgt := 70) hx hb dX6_watch_57 (by decide) (fun c7 => ?_) (fun c7 => ?_)
      · have h := if_t c7 h
        refine lv_iconst (v := (0 : Int32)) hx hb dX6_watch_70 (by decide) ?_
        exact LX6_watch_71 B C x1 x2 x3 x4 y0 (0 : Int32) u _ _ _ V (lv_sub hl [1, 2, 3, 4, 5, 0] rfl) h
      · have h := if_f c7 h
        refine lv_iload_n hx hb dX6_watch_60 rfl (lv_at hl 4 rfl) ?_
        refine lv_iload hx hb dX6_watch_61 (lv_at hl 5 rfl) ?_
        refine lv_icmp_eq (tgt := 70) hx hb dX6_watch_63 (by decide) (fun c8 => ?_) (fun c8 => ?_)
        · have h := if_t c8 h
          refine lv_iconst (v := (0 : Int32)) hx hb dX6_watch_70 (by decide) ?_
          exact LX6_watch_71 B C x1 x2 x3 x4 y0 (0 : Int32) u _ _ _ V (lv_sub hl [1, 2, 3, 4, 5, 0] rfl) h
        · have h := if_f c8 h
          refine lv_iconst (v := (1 : Int32)) hx hb dX6_watch_66 (by decide) ?_
          refine lv_goto (tgt := 71) hx hb dX6_watch_67 (by decide) ?_
          exact LX6_watch_71 B C x1 x2 x3 x4 y0 (1 : Int32) u _ _ _ V (lv_sub hl [1, 2, 3, 4, 5, 0] rfl) h
set_option maxHeartbeats 4000000 in
theorem mX6_watch {l : Launch} {D : va_G} {a : Nat → Nat} {cA : ClassId} {sz : Nat} {u : g_S} {p1 : Int32} {p2 : Int32} {p3 : Int32} {p4 : Int32} {rv : g_S} (h : fm_watch u p1 p2 p3 p4 = some rv) : gw_Mv D vwCl [(cA, .int)] (mdA a) gY (mdW a cA) l yX6_watch wxX6_watch rmX6_watch sz u [.ref (a 0), .int p1, .int p2, .int p3, .int p4] rv := by
  refine gw_Mof (Qc := fun z => va_Qv (gw_Pv rv) (gw_W D vwCl (mdW a cA)) (rg (mdA a) z)) (cc := cX6_watch) (maxL := 7) (ret := none) (by decide) rfl ?_
  intro p e s m below meth c B C V
  obtain ⟨hx, hb, hml, hown, hts, hr, hlk⟩ := id B
  have hl := lv_entry ([.ref (a 0), .int p1, .int p2, .int p3, .int p4]) (n := 7) (Nat.le_of_ble_eq_true rfl)
  rw [lg_entry_eq]
  generalize (lg_sl ([.ref (a 0), .int p1, .int p2, .int p3, .int p4]) ++ List.replicate (7 - (lg_sl ([.ref (a 0), .int p1, .int p2, .int p3, .int p4])).length) Slot.unset).toArray = ls at hl ⊢
  have hl : lv_has ls 7 [(0, .ref (a 0)), (1, .int p1), (2, .int p2), (3, .int p3), (4, .int p4)] := hl
  unfold fm_watch at h
  refine lv_aload_n hx hb dX6_watch_0 rfl (lv_at hl 0 rfl) ?_
  refine lv_iload_n hx hb dX6_watch_1 rfl (lv_at hl 1 rfl) ?_
  obtain ⟨v1, hv1, h⟩ := bi_e h
  refine gw_ki V (va_runV (As := [.int p1]) (rest := []) ⟨hx, hb, hml, hown, hts⟩ (mX6_isEvent (D := D) (a := a) (cA := cA) (u := u) hv1) (cwV 1 hts gmdX6_170 rfl rfl rfl (by decide +kernel) ⟨Nat.le_of_ble_eq_true rfl, Nat.le_of_ble_eq_true rfl⟩) (gw_preV (q0 := 0) (ci := 5) gY_ok C V [.int p1] rfl rfl) rfl rfl hl.1 rfl (lv_room (Nat.le_of_ble_eq_true rfl)) dX6_watch_2 ⟨Nat.zero_le _, Nat.zero_le _⟩) (fun H locs V => ?_)
  refine lv_if_eq (tgt := 19) hx hb dX6_watch_5 (by decide) (fun c2 => ?_) (fun c2 => ?_)
  · have h := if_t c2 h
    refine lv_iconst (v := (0 : Int32)) hx hb dX6_watch_19 (by decide) ?_
    exact LX6_watch_20 B C p1 p2 p3 p4 (0 : Int32) u _ _ _ V (lv_sub hl [0, 1, 2, 3, 4] rfl) h
  · have h := if_f c2 h
    refine lv_iload_n hx hb dX6_watch_8 rfl (lv_at hl 2 rfl) ?_
    obtain ⟨v3, hv3, h⟩ := bi_e h
    refine gw_ki V (va_runS (As := [.int p2]) (rest := []) ⟨hx, hb, hml, hown, hts⟩ (mX6_isRoad (D := D) (a := a) (cA := cA) (u := u) hv3) (cwS 1 hts gmdX6_94 rfl rfl rfl (by decide +kernel) ⟨Nat.le_of_ble_eq_true rfl, Nat.le_of_ble_eq_true rfl⟩) (gw_preS gY_ok C V [.int p2]) rfl rfl hl.1 rfl (lv_room (Nat.le_of_ble_eq_true rfl)) dX6_watch_9 ⟨Nat.zero_le _, Nat.zero_le _⟩) (fun H locs V => ?_)
    refine lv_if_eq (tgt := 19) hx hb dX6_watch_12 (by decide) (fun c4 => ?_) (fun c4 => ?_)
    · have h := if_t c4 h
      refine lv_iconst (v := (0 : Int32)) hx hb dX6_watch_19 (by decide) ?_
      exact LX6_watch_20 B C p1 p2 p3 p4 (0 : Int32) u _ _ _ V (lv_sub hl [0, 1, 2, 3, 4] rfl) h
    · have h := if_f c4 h
      refine lv_iconst (v := (1 : Int32)) hx hb dX6_watch_15 (by decide) ?_
      refine lv_goto (tgt := 20) hx hb dX6_watch_16 (by decide) ?_
      exact LX6_watch_20 B C p1 p2 p3 p4 (1 : Int32) u _ _ _ V (lv_sub hl [0, 1, 2, 3, 4] rfl) h
