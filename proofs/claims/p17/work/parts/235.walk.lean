set_option maxHeartbeats 4000000 in
theorem LX0_moveAll_2 {p : Program} {l : Launch} {e : Env} {s : State} {m : MethodId} {below : List Frame} {meth : Method} {c : Code} {args : Array Value} {D : va_G} {a : Nat → Nat} {cA : ClassId} (B : gw_B p s m args meth c cX0_moveAll 4 none RX0 gT) (C : gw_C D vwCl [(cA, .int)] (cjA a) gX s) {rv : g_S} : ∀ (n : Nat) (x1 : Int32) (x2 : Int32) (x3 : Int32) (u : g_S) (H : Heap) (locs : List Loc) (ls : Array Slot), gw_V D vwCl (cjA a) (cjW a cA) s u H locs → lv_has ls 4 [(0, .ref (a 3)), (1, .int x1), (2, .int x2), (3, .int x3)] → fcA_moveAll_2 n u x1 x2 x3 = some rv → W p l e rmX0_moveAll s m args below meth c H locs 0 0 (gw_Ev D vwCl (cjA a) (cjW a cA) below args s rv) (F0 m 2 ls []) := by
  obtain ⟨hx, hb, hml, hown, hts, hr, hlk⟩ := id B
  intro n
  induction n with
  | zero =>
    intro x1 x2 x3 u H locs ls V hl h
    cases h
  | succ n ih =>
    intro x1 x2 x3 u H locs ls V hl h
    rw [fcA_moveAll_2_s] at h
    refine lv_iload_n hx hb dX0_moveAll_2 rfl (lv_at hl 3 rfl) ?_
    refine lv_aload_n hx hb dX0_moveAll_3 rfl (lv_at hl 0 rfl) ?_
    refine va_get (C := RX0) (T := TX0) (N := 11) (ci := 0) hx hb hts igX0 hown C.1 V.1 3 rfl rfl 0 (by decide) (hts _ kt_76) (fun _ h => h) rfl dX0_moveAll_4 ?_
    refine lv_icmp_ge (tgt := 33) hx hb dX0_moveAll_7 (by decide) (fun c1 => ?_) (fun c1 => ?_)
    · have h := if_t c1 h
      exact gw_retv hx hb hr hlk V (Option.some.inj h) dX0_moveAll_33
    · have h := if_f c1 h
      refine lv_aload_n hx hb dX0_moveAll_10 rfl (lv_at hl 0 rfl) ?_
      refine va_get (C := RX0) (T := TX0) (N := 11) (ci := 0) hx hb hts igX0 hown C.1 V.1 3 rfl rfl 7 (by decide) (hts _ kt_90) (fun _ h => h) rfl dX0_moveAll_11 ?_
      refine lv_iload_n hx hb dX0_moveAll_14 rfl (lv_at hl 3 rfl) ?_
      obtain ⟨i2, h⟩ := ck_e h
      refine va_iald hx hb C.1 V.1 18 0 rfl rfl i2 dX0_moveAll_15 ?_
      refine lv_iload_n hx hb dX0_moveAll_16 rfl (lv_at hl 1 rfl) ?_
      refine lv_icmp_ne (tgt := 27) hx hb dX0_moveAll_17 (by decide) (fun c3 => ?_) (fun c3 => ?_)
      · have h := if_t c3 h
        refine lv_iinc (v := (x3 + (1 : Int32))) (lv' := [(3, .int (x3 + (1 : Int32))), (0, .ref (a 3)), (1, .int x1), (2, .int x2)]) hx hb dX0_moveAll_27 hl (k := 3) rfl rfl (by decide) rfl (fun ls hl => ?_)
        refine lv_goto (tgt := 2) hx hb dX0_moveAll_30 (by decide) ?_
        exact ih x1 x2 (x3 + (1 : Int32)) u _ _ _ V (lv_sub hl [1, 2, 3, 0] rfl) h
      · have h := if_nn c3 h
        refine lv_aload_n hx hb dX0_moveAll_20 rfl (lv_at hl 0 rfl) ?_
        refine va_get (C := RX0) (T := TX0) (N := 11) (ci := 0) hx hb hts igX0 hown C.1 V.1 3 rfl rfl 7 (by decide) (hts _ kt_90) (fun _ h => h) rfl dX0_moveAll_21 ?_
        refine lv_iload_n hx hb dX0_moveAll_24 rfl (lv_at hl 3 rfl) ?_
        refine lv_iload_n hx hb dX0_moveAll_25 rfl (lv_at hl 2 rfl) ?_
        obtain ⟨i4, h⟩ := ck_e h
        obtain ⟨u5, eu5, h⟩ := gl_e h
        refine gw_iast (u' := u5) hx hb (cjW_as a cA) C V 18 0 rfl rfl i4 (cjS_13 _ _ _ _ _ _ eu5) dX0_moveAll_26 (fun H locs V => ?_)
        refine lv_iinc (v := (x3 + (1 : Int32))) (lv' := [(3, .int (x3 + (1 : Int32))), (0, .ref (a 3)), (1, .int x1), (2, .int x2)]) hx hb dX0_moveAll_27 hl (k := 3) rfl rfl (by decide) rfl (fun ls hl => ?_)
        refine lv_goto (tgt := 2) hx hb dX0_moveAll_30 (by decide) ?_
        exact ih x1 x2 (x3 + (1 : Int32)) u5 _ _ _ V (lv_sub hl [1, 2, 3, 0] rfl) h
set_option maxHeartbeats 4000000 in
theorem mX0_moveAll {l : Launch} {D : va_G} {a : Nat → Nat} {cA : ClassId} {sz : Nat} {u : g_S} {p1 : Int32} {p2 : Int32} {rv : g_S} (h : fcA_moveAll u p1 p2 = some rv) : gw_Mv D vwCl [(cA, .int)] (cjA a) gX (cjW a cA) l yX0_moveAll wxX0_moveAll rmX0_moveAll sz u [.ref (a 3), .int p1, .int p2] rv := by
  refine gw_Mof (Qc := fun z => va_Qv (gw_Pv rv) (gw_W D vwCl (cjW a cA)) (rg (cjA a) z)) (cc := cX0_moveAll) (maxL := 4) (ret := none) (by decide) rfl ?_
  intro p e s m below meth c B C V
  obtain ⟨hx, hb, hml, hown, hts, hr, hlk⟩ := id B
  have hl := lv_entry ([.ref (a 3), .int p1, .int p2]) (n := 4) (Nat.le_of_ble_eq_true rfl)
  rw [lg_entry_eq]
  generalize (lg_sl ([.ref (a 3), .int p1, .int p2]) ++ List.replicate (4 - (lg_sl ([.ref (a 3), .int p1, .int p2])).length) Slot.unset).toArray = ls at hl ⊢
  have hl : lv_has ls 4 [(0, .ref (a 3)), (1, .int p1), (2, .int p2)] := hl
  unfold fcA_moveAll at h
  refine lv_iconst (v := (0 : Int32)) hx hb dX0_moveAll_0 (by decide) ?_
  refine lv_istore_n (lv' := [(3, .int (0 : Int32)), (0, .ref (a 3)), (1, .int p1), (2, .int p2)]) hx hb dX0_moveAll_1 rfl hl (by decide) rfl (fun ls hl => ?_)
  exact LX0_moveAll_2 B C 200 p1 p2 (0 : Int32) u _ _ _ V (lv_sub hl [1, 2, 3, 0] rfl) h
set_option maxHeartbeats 4000000 in
theorem LX0_countIn_4 {p : Program} {l : Launch} {e : Env} {s : State} {m : MethodId} {below : List Frame} {meth : Method} {c : Code} {args : Array Value} {D : va_G} {a : Nat → Nat} {cA : ClassId} (B : gw_B p s m args meth c cX0_countIn 4 (some .int) RX0 gT) (C : gw_C D vwCl [(cA, .int)] (cjA a) gX s) {rv : Int32} {u : g_S} : ∀ (n : Nat) (x1 : Int32) (x2 : Int32) (x3 : Int32) (H : Heap) (locs : List Loc) (ls : Array Slot), gw_V D vwCl (cjA a) (cjW a cA) s u H locs → lv_has ls 4 [(0, .ref (a 3)), (1, .int x1), (2, .int x2), (3, .int x3)] → fcA_countIn_4 u n x1 x2 x3 = some rv → W p l e rmX0_countIn s m args below meth c H locs 0 0 (gw_Ei D vwCl (cjA a) (cjW a cA) below args s rv u) (F0 m 4 ls []) := by
  obtain ⟨hx, hb, hml, hown, hts, hr, hlk⟩ := id B
  intro n
  induction n with
  | zero =>
    intro x1 x2 x3 H locs ls V hl h
    cases h
  | succ n ih =>
    intro x1 x2 x3 H locs ls V hl h
    rw [fcA_countIn_4_s] at h
    refine lv_iload_n hx hb dX0_countIn_4 rfl (lv_at hl 3 rfl) ?_
    refine lv_aload_n hx hb dX0_countIn_5 rfl (lv_at hl 0 rfl) ?_
    refine va_get (C := RX0) (T := TX0) (N := 11) (ci := 0) hx hb hts igX0 hown C.1 V.1 3 rfl rfl 0 (by decide) (hts _ kt_76) (fun _ h => h) rfl dX0_countIn_6 ?_
    refine lv_icmp_ge (tgt := 31) hx hb dX0_countIn_9 (by decide) (fun c1 => ?_) (fun c1 => ?_)
    · have h := if_t c1 h
      refine lv_iload_n hx hb dX0_countIn_31 rfl (lv_at hl 2 rfl) ?_
      exact gw_reti hx hb hr rfl hlk V (Option.some.inj h) rfl dX0_countIn_32
    · have h := if_f c1 h
      refine lv_aload_n hx hb dX0_countIn_12 rfl (lv_at hl 0 rfl) ?_
      refine va_get (C := RX0) (T := TX0) (N := 11) (ci := 0) hx hb hts igX0 hown C.1 V.1 3 rfl rfl 7 (by decide) (hts _ kt_90) (fun _ h => h) rfl dX0_countIn_13 ?_
      refine lv_iload_n hx hb dX0_countIn_16 rfl (lv_at hl 3 rfl) ?_
      obtain ⟨i2, h⟩ := ck_e h
      refine va_iald hx hb C.1 V.1 18 0 rfl rfl i2 dX0_countIn_17 ?_
      refine lv_iload_n hx hb dX0_countIn_18 rfl (lv_at hl 1 rfl) ?_
      refine lv_icmp_ne (tgt := 25) hx hb dX0_countIn_19 (by decide) (fun c3 => ?_) (fun c3 => ?_)
      · have h := if_t c3 h
        refine lv_iinc (v := (x3 + (1 : Int32))) (lv' := [(3, .int (x3 + (1 : Int32))), (0, .ref (a 3)), (1, .int x1), (2, .int x2)]) hx hb dX0_countIn_25 hl (k := 3) rfl rfl (by decide) rfl (fun ls hl => ?_)
        refine lv_goto (tgt := 4) hx hb dX0_countIn_28 (by decide) ?_
        exact ih x1 x2 (x3 + (1 : Int32)) _ _ _ V (lv_sub hl [1, 2, 3, 0] rfl) h
      · have h := if_nn c3 h
        refine lv_iinc (v := (x2 + (1 : Int32))) (lv' := [(2, .int (x2 + (1 : Int32))), (0, .ref (a 3)), (1, .int x1), (3, .int x3)]) hx hb dX0_countIn_22 hl (k := 2) rfl rfl (by decide) rfl (fun ls hl => ?_)
        refine lv_iinc (v := (x3 + (1 : Int32))) (lv' := [(3, .int (x3 + (1 : Int32))), (2, .int (x2 + (1 : Int32))), (0, .ref (a 3)), (1, .int x1)]) hx hb dX0_countIn_25 hl (k := 3) rfl rfl (by decide) rfl (fun ls hl => ?_)
        refine lv_goto (tgt := 4) hx hb dX0_countIn_28 (by decide) ?_
        exact ih x1 (x2 + (1 : Int32)) (x3 + (1 : Int32)) _ _ _ V (lv_sub hl [2, 3, 1, 0] rfl) h
set_option maxHeartbeats 4000000 in
theorem mX0_countIn {l : Launch} {D : va_G} {a : Nat → Nat} {cA : ClassId} {sz : Nat} {u : g_S} {p1 : Int32} {rv : Int32} (h : fcA_countIn u p1 = some rv) : gw_Mi D vwCl [(cA, .int)] (cjA a) gX (cjW a cA) l yX0_countIn wxX0_countIn rmX0_countIn sz u [.ref (a 3), .int p1] rv u := by
  refine gw_Mof (Qc := fun z => va_Qi (gw_Pi rv u) (gw_W D vwCl (cjW a cA)) (rg (cjA a) z)) (cc := cX0_countIn) (maxL := 4) (ret := (some .int)) (by decide) rfl ?_
  intro p e s m below meth c B C V
  obtain ⟨hx, hb, hml, hown, hts, hr, hlk⟩ := id B
  have hl := lv_entry ([.ref (a 3), .int p1]) (n := 4) (Nat.le_of_ble_eq_true rfl)
  rw [lg_entry_eq]
  generalize (lg_sl ([.ref (a 3), .int p1]) ++ List.replicate (4 - (lg_sl ([.ref (a 3), .int p1])).length) Slot.unset).toArray = ls at hl ⊢
  have hl : lv_has ls 4 [(0, .ref (a 3)), (1, .int p1)] := hl
  unfold fcA_countIn at h
  refine lv_iconst (v := (0 : Int32)) hx hb dX0_countIn_0 (by decide) ?_
  refine lv_istore_n (lv' := [(2, .int (0 : Int32)), (0, .ref (a 3)), (1, .int p1)]) hx hb dX0_countIn_1 rfl hl (by decide) rfl (fun ls hl => ?_)
  refine lv_iconst (v := (0 : Int32)) hx hb dX0_countIn_2 (by decide) ?_
  refine lv_istore_n (lv' := [(3, .int (0 : Int32)), (2, .int (0 : Int32)), (0, .ref (a 3)), (1, .int p1)]) hx hb dX0_countIn_3 rfl hl (by decide) rfl (fun ls hl => ?_)
  exact LX0_countIn_4 B C 200 p1 (0 : Int32) (0 : Int32) _ _ _ V (lv_sub hl [2, 3, 1, 0] rfl) h
set_option maxHeartbeats 4000000 in
theorem LX4_merge_80 {p : Program} {l : Launch} {e : Env} {s : State} {m : MethodId} {below : List Frame} {meth : Method} {c : Code} {args : Array Value} {D : va_G} {a : Nat → Nat} {cA : ClassId} (hl9 : l.stackTraces = false) (B : gw_B p s m args meth c cX4_merge 5 (some .int) RX4 gT) (htab : ∀ x ∈ c.exceptionTable.toList, False) (C : gw_C D vwCl [(cA, .int)] (cjA a) gX s) {rv : Nat × Int32 × g_S} : ∀ (x1 : Int32) (x2 : Int32) (x3 : Int32) (y0 : Int32) (u : g_S) (H : Heap) (locs : List Loc) (ls : Array Slot), gw_V D vwCl (cjA a) (cjW a cA) s u H locs → lv_has ls 5 [(0, .ref (a 0)), (1, .int x1), (2, .int x2), (3, .int x3)] → fcJ_merge_80 u x1 x2 x3 y0 = some rv → W p l e (rmX4_merge rv.1) s m args below meth c H locs 0 0 (gx_Ei D vwCl (cjA a) (cjW a cA) below args s (gk rv.1) (6 * gk rv.1) rv.1 rv.2.1 rv.2.2) (F0 m 80 ls [.int y0]) := by
  obtain ⟨hx, hb, hml, hown, hts, hr, hlk⟩ := id B
  intro x1 x2 x3 y0 u H locs ls V hl h
  unfold fcJ_merge_80 at h
  obtain ⟨v1, hv1, h⟩ := bi_e h
  refine gy_kv V (vx_runS (As := [.int y0]) (rest := []) ⟨hx, hb, hml, hown, hts⟩ (mX4_needState hl9 (D := D) (a := a) (cA := cA) (u := u) hv1) (cwS 1 hts gcjX4_108 rfl rfl rfl (by decide +kernel) ⟨Nat.le_of_ble_eq_true rfl, Nat.le_of_ble_eq_true rfl⟩) (gw_preS gX_ok C V [.int y0]) rfl rfl hl.1 rfl (lv_room (Nat.le_of_ble_eq_true rfl)) dX4_merge_80 (gkr (gk_le (fun q => in3a (if_f q h))))) (fun k0 H locs ce qe V hat => ?_) (fun k0 H locs V => ?_)
  · have h := if_f k0 h
    exact gx_out htab hlk V hat k0 (in3a h) (in3c h) (gk1 (fun q => k0 ((in3a h).trans q))).1 (gk1 (fun q => k0 ((in3a h).trans q))).2
  have h := if_t k0 h
  refine lv_aload_n hx hb dX4_merge_83 rfl (lv_at hl 0 rfl) ?_
  refine va_get (C := RX4) (T := TX4) (N := 4) (ci := 4) hx hb hts igX4 hown C.1 V.1 0 rfl rfl 3 (by decide) (hts _ kt_159) (fun _ h => h) rfl dX4_merge_84 ?_
  refine va_get (C := RX1) (T := TX1) (N := 7) (ci := 1) hx hb hts igX1 hown C.1 V.1 4 rfl rfl 3 (by decide) (hts _ kt_134) (fun _ h => h) rfl dX4_merge_87 ?_
  refine lv_iload_n hx hb dX4_merge_90 rfl (lv_at hl 1 rfl) ?_
  obtain ⟨i2, h⟩ := ck_e h
  refine va_iald hx hb C.1 V.1 24 0 rfl rfl i2 dX4_merge_91 ?_
  obtain ⟨w3, ew3, h⟩ := gl_e h
  refine gw_nmi ew3 ?_
  refine lv_istore (lv' := [(4, .int w3), (0, .ref (a 0)), (1, .int x1), (2, .int x2), (3, .int x3)]) hx hb dX4_merge_92 hl (by decide) rfl (fun ls hl => ?_)
  refine lv_aload_n hx hb dX4_merge_94 rfl (lv_at hl 1 rfl) ?_
  refine va_get (C := RX4) (T := TX4) (N := 4) (ci := 4) hx hb hts igX4 hown C.1 V.1 0 rfl rfl 2 (by decide) (hts _ kt_158) (fun _ h => h) rfl dX4_merge_95 ?_
  refine va_get (C := RX0) (T := TX0) (N := 11) (ci := 0) hx hb hts igX0 hown C.1 V.1 3 rfl rfl 8 (by decide) (hts _ kt_93) (fun _ h => h) rfl dX4_merge_98 ?_
  refine lv_iload hx hb dX4_merge_101 (lv_at hl 0 rfl) ?_
  refine lv_iload_n hx hb dX4_merge_103 rfl (lv_at hl 3 rfl) ?_
  obtain ⟨i4, h⟩ := ck_e h
  obtain ⟨u5, eu5, h⟩ := gl_e h
  refine gw_iast (u' := u5) hx hb (cjW_as a cA) C V 19 0 rfl rfl i4 (cjS_14 _ _ _ _ _ _ eu5) dX4_merge_104 (fun H locs V => ?_)
  refine lv_aload_n hx hb dX4_merge_105 rfl (lv_at hl 1 rfl) ?_
  refine va_get (C := RX4) (T := TX4) (N := 4) (ci := 4) hx hb hts igX4 hown C.1 V.1 0 rfl rfl 2 (by decide) (hts _ kt_158) (fun _ h => h) rfl dX4_merge_106 ?_
  refine va_get (C := RX0) (T := TX0) (N := 11) (ci := 0) hx hb hts igX0 hown C.1 V.1 3 rfl rfl 9 (by decide) (hts _ kt_95) (fun _ h => h) rfl dX4_merge_109 ?_
  refine lv_iload hx hb dX4_merge_112 (lv_at hl 0 rfl) ?_
  refine lv_iconst (v := (5 : Int32)) hx hb dX4_merge_114 (by decide) ?_
  obtain ⟨i6, h⟩ := ck_e h
  obtain ⟨u7, eu7, h⟩ := gl_e h
  refine gw_iast (u' := u7) hx hb (cjW_as a cA) C V 20 0 rfl rfl i6 (cjS_15 _ _ _ _ _ _ eu7) dX4_merge_115 (fun H locs V => ?_)
  refine lv_aload_n hx hb dX4_merge_116 rfl (lv_at hl 1 rfl) ?_
  refine va_get (C := RX4) (T := TX4) (N := 4) (ci := 4) hx hb hts igX4 hown C.1 V.1 0 rfl rfl 2 (by decide) (hts _ kt_158) (fun _ h => h) rfl dX4_merge_117 ?_
  refine lv_iload_n hx hb dX4_merge_120 rfl (lv_at hl 2 rfl) ?_
  refine lv_iload_n hx hb dX4_merge_121 rfl (lv_at hl 4 rfl) ?_
  obtain ⟨v8, hv8, h⟩ := bi_e h
  refine gw_kv V (va_runV (As := [.int x1, .int x3]) (rest := []) ⟨hx, hb, hml, hown, hts⟩ (mX0_moveAll (D := D) (a := a) (cA := cA) (u := u7) hv8) (cwV 2 hts gcjX4_127 rfl rfl rfl (by decide +kernel) ⟨Nat.le_of_ble_eq_true rfl, Nat.le_of_ble_eq_true rfl⟩) (gw_preV (q0 := 3) (ci := 0) gX_ok C V [.int x1, .int x3] rfl rfl) rfl rfl hl.1 rfl (lv_room (Nat.le_of_ble_eq_true rfl)) dX4_merge_122 ⟨Nat.zero_le _, Nat.zero_le _⟩) (fun H locs V => ?_)
  refine lv_aload_n hx hb dX4_merge_125 rfl (lv_at hl 1 rfl) ?_
  refine va_get (C := RX4) (T := TX4) (N := 4) (ci := 4) hx hb hts igX4 hown C.1 V.1 0 rfl rfl 3 (by decide) (hts _ kt_159) (fun _ h => h) rfl dX4_merge_126 ?_
  refine va_get (C := RX1) (T := TX1) (N := 7) (ci := 1) hx hb hts igX1 hown C.1 V.1 4 rfl rfl 1 (by decide) (hts _ kt_130) (fun _ h => h) rfl dX4_merge_129 ?_
  refine lv_iload_n hx hb dX4_merge_132 rfl (lv_at hl 2 rfl) ?_
  refine lv_iconst (v := (3 : Int32)) hx hb dX4_merge_133 (by decide) ?_
  obtain ⟨i9, h⟩ := ck_e h
  obtain ⟨u10, eu10, h⟩ := gl_e h
  refine gw_iast (u' := u10) hx hb (cjW_as a cA) C V 22 0 rfl rfl i9 (cjS_17 _ _ _ _ _ _ eu10) dX4_merge_134 (fun H locs V => ?_)
  refine lv_aload_n hx hb dX4_merge_135 rfl (lv_at hl 1 rfl) ?_
  refine va_get (C := RX4) (T := TX4) (N := 4) (ci := 4) hx hb hts igX4 hown C.1 V.1 0 rfl rfl 3 (by decide) (hts _ kt_159) (fun _ h => h) rfl dX4_merge_136 ?_
  refine va_get (C := RX1) (T := TX1) (N := 7) (ci := 1) hx hb hts igX1 hown C.1 V.1 4 rfl rfl 3 (by decide) (hts _ kt_134) (fun _ h => h) rfl dX4_merge_139 ?_
  refine lv_iload_n hx hb dX4_merge_142 rfl (lv_at hl 2 rfl) ?_
  refine lv_iconst (v := (-1 : Int32)) hx hb dX4_merge_143 (by decide) ?_
  obtain ⟨i11, h⟩ := ck_e h
  obtain ⟨u12, eu12, h⟩ := gl_e h
  refine gw_iast (u' := u12) hx hb (cjW_as a cA) C V 24 0 rfl rfl i11 (cjS_19 _ _ _ _ _ _ eu12) dX4_merge_144 (fun H locs V => ?_)
  refine lv_aload_n hx hb dX4_merge_145 rfl (lv_at hl 1 rfl) ?_
  refine va_get (C := RX4) (T := TX4) (N := 4) (ci := 4) hx hb hts igX4 hown C.1 V.1 0 rfl rfl 2 (by decide) (hts _ kt_158) (fun _ h => h) rfl dX4_merge_146 ?_
  refine lv_iload_n hx hb dX4_merge_149 rfl (lv_at hl 4 rfl) ?_
  obtain ⟨v13, hv13, h⟩ := bi_e h
  refine gw_ki V (va_runV (As := [.int x3]) (rest := []) ⟨hx, hb, hml, hown, hts⟩ (mX0_countIn (D := D) (a := a) (cA := cA) (u := u12) hv13) (cwV 1 hts gcjX4_130 rfl rfl rfl (by decide +kernel) ⟨Nat.le_of_ble_eq_true rfl, Nat.le_of_ble_eq_true rfl⟩) (gw_preV (q0 := 3) (ci := 0) gX_ok C V [.int x3] rfl rfl) rfl rfl hl.1 rfl (lv_room (Nat.le_of_ble_eq_true rfl)) dX4_merge_150 ⟨Nat.zero_le _, Nat.zero_le _⟩) (fun H locs V => ?_)
  exact gx_reti hx hb hr rfl hlk V (in3a h).symm (in3b h) (in3c h) (Nat.zero_le _) (Nat.zero_le _) dX4_merge_153
set_option maxHeartbeats 4000000 in
theorem LX4_merge_33 {p : Program} {l : Launch} {e : Env} {s : State} {m : MethodId} {below : List Frame} {meth : Method} {c : Code} {args : Array Value} {D : va_G} {a : Nat → Nat} {cA : ClassId} (hl9 : l.stackTraces = false) (B : gw_B p s m args meth c cX4_merge 5 (some .int) RX4 gT) (htab : ∀ x ∈ c.exceptionTable.toList, False) (C : gw_C D vwCl [(cA, .int)] (cjA a) gX s) {rv : Nat × Int32 × g_S} : ∀ (x1 : Int32) (x2 : Int32) (y0 : Int32) (u : g_S) (H : Heap) (locs : List Loc) (ls : Array Slot), gw_V D vwCl (cjA a) (cjW a cA) s u H locs → lv_has ls 5 [(0, .ref (a 0)), (1, .int x1), (2, .int x2)] → fcJ_merge_33 u x1 x2 y0 = some rv → W p l e (rmX4_merge rv.1) s m args below meth c H locs 0 0 (gx_Ei D vwCl (cjA a) (cjW a cA) below args s (gk rv.1) (6 * gk rv.1) rv.1 rv.2.1 rv.2.2) (F0 m 33 ls [.int y0]) := by
  obtain ⟨hx, hb, hml, hown, hts, hr, hlk⟩ := id B
  intro x1 x2 y0 u H locs ls V hl h
  unfold fcJ_merge_33 at h
  obtain ⟨v1, hv1, h⟩ := bi_e h
  refine gy_kv V (vx_runS (As := [.int y0]) (rest := []) ⟨hx, hb, hml, hown, hts⟩ (mX4_needKnown hl9 (D := D) (a := a) (cA := cA) (u := u) hv1) (cwS 1 hts gcjX4_41 rfl rfl rfl (by decide +kernel) ⟨Nat.le_of_ble_eq_true rfl, Nat.le_of_ble_eq_true rfl⟩) (gw_preS gX_ok C V [.int y0]) rfl rfl hl.1 rfl (lv_room (Nat.le_of_ble_eq_true rfl)) dX4_merge_33 (gkr (gk_le (fun q => in3a (if_f q h))))) (fun k0 H locs ce qe V hat => ?_) (fun k0 H locs V => ?_)
  · have h := if_f k0 h
    exact gx_out htab hlk V hat k0 (in3a h) (in3c h) (gk1 (fun q => k0 ((in3a h).trans q))).1 (gk1 (fun q => k0 ((in3a h).trans q))).2
  have h := if_t k0 h
  refine lv_aload_n hx hb dX4_merge_36 rfl (lv_at hl 0 rfl) ?_
  refine va_get (C := RX4) (T := TX4) (N := 4) (ci := 4) hx hb hts igX4 hown C.1 V.1 0 rfl rfl 2 (by decide) (hts _ kt_158) (fun _ h => h) rfl dX4_merge_37 ?_
  refine va_get (C := RX0) (T := TX0) (N := 11) (ci := 0) hx hb hts igX0 hown C.1 V.1 3 rfl rfl 7 (by decide) (hts _ kt_91) (fun _ h => h) rfl dX4_merge_40 ?_
  refine lv_iload_n hx hb dX4_merge_43 rfl (lv_at hl 2 rfl) ?_
  obtain ⟨i2, h⟩ := ck_e h
  refine va_iald hx hb C.1 V.1 18 0 rfl rfl i2 dX4_merge_44 ?_
  obtain ⟨w3, ew3, h⟩ := gl_e h
  refine gw_nmi ew3 ?_
  refine lv_istore_n (lv' := [(3, .int w3), (0, .ref (a 0)), (1, .int x1), (2, .int x2)]) hx hb dX4_merge_45 rfl hl (by decide) rfl (fun ls hl => ?_)
  refine lv_aload_n hx hb dX4_merge_46 rfl (lv_at hl 1 rfl) ?_
  refine va_get (C := RX4) (T := TX4) (N := 4) (ci := 4) hx hb hts igX4 hown C.1 V.1 0 rfl rfl 3 (by decide) (hts _ kt_159) (fun _ h => h) rfl dX4_merge_47 ?_
  refine va_get (C := RX1) (T := TX1) (N := 7) (ci := 1) hx hb hts igX1 hown C.1 V.1 4 rfl rfl 1 (by decide) (hts _ kt_130) (fun _ h => h) rfl dX4_merge_50 ?_
  refine lv_iload_n hx hb dX4_merge_53 rfl (lv_at hl 2 rfl) ?_
  obtain ⟨i4, h⟩ := ck_e h
  refine va_iald hx hb C.1 V.1 22 0 rfl rfl i4 dX4_merge_54 ?_
  refine lv_if_ne (tgt := 79) hx hb dX4_merge_55 (by decide) (fun c5 => ?_) (fun c5 => ?_)
  · have h := if_t c5 h
    refine lv_iconst (v := (0 : Int32)) hx hb dX4_merge_79 (by decide) ?_
    exact LX4_merge_80 hl9 B htab C x1 x2 w3 (0 : Int32) u _ _ _ V (lv_sub hl [1, 2, 3, 0] rfl) h
  · have h := if_nn c5 h
    refine lv_aload_n hx hb dX4_merge_58 rfl (lv_at hl 1 rfl) ?_
    refine va_get (C := RX4) (T := TX4) (N := 4) (ci := 4) hx hb hts igX4 hown C.1 V.1 0 rfl rfl 3 (by decide) (hts _ kt_159) (fun _ h => h) rfl dX4_merge_59 ?_
    refine va_get (C := RX1) (T := TX1) (N := 7) (ci := 1) hx hb hts igX1 hown C.1 V.1 4 rfl rfl 1 (by decide) (hts _ kt_130) (fun _ h => h) rfl dX4_merge_62 ?_
    refine lv_iload_n hx hb dX4_merge_65 rfl (lv_at hl 0 rfl) ?_
    obtain ⟨i6, h⟩ := ck_e h
    refine va_iald hx hb C.1 V.1 22 0 rfl rfl i6 dX4_merge_66 ?_
    refine lv_if_ne (tgt := 79) hx hb dX4_merge_67 (by decide) (fun c7 => ?_) (fun c7 => ?_)
    · have h := if_t c7 h
      refine lv_iconst (v := (0 : Int32)) hx hb dX4_merge_79 (by decide) ?_
      exact LX4_merge_80 hl9 B htab C x1 x2 w3 (0 : Int32) u _ _ _ V (lv_sub hl [1, 2, 3, 0] rfl) h
    · have h := if_nn c7 h
      refine lv_iload_n hx hb dX4_merge_70 rfl (lv_at hl 2 rfl) ?_
      refine lv_iload_n hx hb dX4_merge_71 rfl (lv_at hl 0 rfl) ?_
      refine lv_icmp_eq (tgt := 79) hx hb dX4_merge_72 (by decide) (fun c8 => ?_) (fun c8 => ?_)
      · have h := if_t c8 h
        refine lv_iconst (v := (0 : Int32)) hx hb dX4_merge_79 (by decide) ?_
        exact LX4_merge_80 hl9 B htab C x1 x2 w3 (0 : Int32) u _ _ _ V (lv_sub hl [1, 2, 3, 0] rfl) h
      · have h := if_f c8 h
        refine lv_iconst (v := (1 : Int32)) hx hb dX4_merge_75 (by decide) ?_
        refine lv_goto (tgt := 80) hx hb dX4_merge_76 (by decide) ?_
        exact LX4_merge_80 hl9 B htab C x1 x2 w3 (1 : Int32) u _ _ _ V (lv_sub hl [1, 2, 3, 0] rfl) h
set_option maxHeartbeats 4000000 in
theorem mX4_merge {l : Launch} (hl9 : l.stackTraces = false) {D : va_G} {a : Nat → Nat} {cA : ClassId} {sz : Nat} {u : g_S} {p1 : Int32} {p2 : Int32} {rv : Nat × Int32 × g_S} (h : fcJ_merge u p1 p2 = some rv) : gx_Mi D vwCl [(cA, .int)] (cjA a) gX (cjW a cA) l yX4_merge wxX4_merge (rmX4_merge rv.1) (gk rv.1) (6 * gk rv.1) sz u [.ref (a 0), .int p1, .int p2] rv.1 rv.2.1 rv.2.2 := by
  refine gx_Mof (Qc := fun z => va_Qi (gx_Pi rv.1 rv.2.1 rv.2.2) (gw_W D vwCl (cjW a cA)) (rg (cjA a) z)) (XC := fun z => vx_X (gx_Px rv.1 rv.2.2) (gx_W D vwCl (cjW a cA) rv.1) (rg (cjA a) z)) (cc := cX4_merge) (maxL := 5) (ret := (some .int)) (by decide) rfl ?_
  intro p e s m below meth c B htab C V
  obtain ⟨hx, hb, hml, hown, hts, hr, hlk⟩ := id B
  have hl := lv_entry ([.ref (a 0), .int p1, .int p2]) (n := 5) (Nat.le_of_ble_eq_true rfl)
  rw [lg_entry_eq]
  generalize (lg_sl ([.ref (a 0), .int p1, .int p2]) ++ List.replicate (5 - (lg_sl ([.ref (a 0), .int p1, .int p2])).length) Slot.unset).toArray = ls at hl ⊢
  have hl : lv_has ls 5 [(0, .ref (a 0)), (1, .int p1), (2, .int p2)] := hl
  unfold fcJ_merge at h
  refine lv_iload_n hx hb dX4_merge_0 rfl (lv_at hl 1 rfl) ?_
  refine lv_aload_n hx hb dX4_merge_1 rfl (lv_at hl 0 rfl) ?_
  refine va_get (C := RX4) (T := TX4) (N := 4) (ci := 4) hx hb hts igX4 hown C.1 V.1 0 rfl rfl 3 (by decide) (hts _ kt_159) (fun _ h => h) rfl dX4_merge_2 ?_
  refine va_get (C := RX1) (T := TX1) (N := 7) (ci := 1) hx hb hts igX1 hown C.1 V.1 4 rfl rfl 0 (by decide) (hts _ kt_128) (fun _ h => h) rfl dX4_merge_5 ?_
  obtain ⟨v1, hv1, h⟩ := bi_e h
  refine gw_ki V (va_runS (As := [.int p1, .int (u.1 1)]) (rest := []) ⟨hx, hb, hml, hown, hts⟩ (mX4_isBelow (D := D) (a := a) (cA := cA) (u := u) hv1) (cwS 2 hts gcjX4_37 rfl rfl rfl (by decide +kernel) ⟨Nat.le_of_ble_eq_true rfl, Nat.le_of_ble_eq_true rfl⟩) (gw_preS gX_ok C V [.int p1, .int (u.1 1)]) rfl rfl hl.1 rfl (lv_room (Nat.le_of_ble_eq_true rfl)) dX4_merge_8 ⟨Nat.zero_le _, Nat.zero_le _⟩) (fun H locs V => ?_)
  refine lv_if_eq (tgt := 32) hx hb dX4_merge_11 (by decide) (fun c2 => ?_) (fun c2 => ?_)
  · have h := if_t c2 h
    refine lv_iconst (v := (0 : Int32)) hx hb dX4_merge_32 (by decide) ?_
    exact LX4_merge_33 hl9 B htab C p1 p2 (0 : Int32) u _ _ _ V (lv_sub hl [0, 1, 2] rfl) h
  · have h := if_f c2 h
    refine lv_iload_n hx hb dX4_merge_14 rfl (lv_at hl 2 rfl) ?_
    refine lv_aload_n hx hb dX4_merge_15 rfl (lv_at hl 0 rfl) ?_
    refine va_get (C := RX4) (T := TX4) (N := 4) (ci := 4) hx hb hts igX4 hown C.1 V.1 0 rfl rfl 2 (by decide) (hts _ kt_158) (fun _ h => h) rfl dX4_merge_16 ?_
    refine va_get (C := RX0) (T := TX0) (N := 11) (ci := 0) hx hb hts igX0 hown C.1 V.1 3 rfl rfl 0 (by decide) (hts _ kt_77) (fun _ h => h) rfl dX4_merge_19 ?_
    obtain ⟨v3, hv3, h⟩ := bi_e h
    refine gw_ki V (va_runS (As := [.int p2, .int (u.1 0)]) (rest := []) ⟨hx, hb, hml, hown, hts⟩ (mX4_isBelow (D := D) (a := a) (cA := cA) (u := u) hv3) (cwS 2 hts gcjX4_37 rfl rfl rfl (by decide +kernel) ⟨Nat.le_of_ble_eq_true rfl, Nat.le_of_ble_eq_true rfl⟩) (gw_preS gX_ok C V [.int p2, .int (u.1 0)]) rfl rfl hl.1 rfl (lv_room (Nat.le_of_ble_eq_true rfl)) dX4_merge_22 ⟨Nat.zero_le _, Nat.zero_le _⟩) (fun H locs V => ?_)
    refine lv_if_eq (tgt := 32) hx hb dX4_merge_25 (by decide) (fun c4 => ?_) (fun c4 => ?_)
    · have h := if_t c4 h
      refine lv_iconst (v := (0 : Int32)) hx hb dX4_merge_32 (by decide) ?_
      exact LX4_merge_33 hl9 B htab C p1 p2 (0 : Int32) u _ _ _ V (lv_sub hl [0, 1, 2] rfl) h
    · have h := if_f c4 h
      refine lv_iconst (v := (1 : Int32)) hx hb dX4_merge_28 (by decide) ?_
      refine lv_goto (tgt := 33) hx hb dX4_merge_29 (by decide) ?_
      exact LX4_merge_33 hl9 B htab C p1 p2 (1 : Int32) u _ _ _ V (lv_sub hl [0, 1, 2] rfl) h
set_option maxHeartbeats 4000000 in
theorem LX4_watch_95 {p : Program} {l : Launch} {e : Env} {s : State} {m : MethodId} {below : List Frame} {meth : Method} {c : Code} {args : Array Value} {D : va_G} {a : Nat → Nat} {cA : ClassId} (hl9 : l.stackTraces = false) (B : gw_B p s m args meth c cX4_watch 5 none RX4 gT) (htab : ∀ x ∈ c.exceptionTable.toList, False) (C : gw_C D vwCl [(cA, .int)] (cjA a) gX s) {rv : Nat × g_S} : ∀ (x1 : Int32) (x2 : Int32) (x3 : Int32) (x4 : Int32) (y0 : Int32) (u : g_S) (H : Heap) (locs : List Loc) (ls : Array Slot), gw_V D vwCl (cjA a) (cjW a cA) s u H locs → lv_has ls 5 [(0, .ref (a 0)), (1, .int x1), (2, .int x2), (3, .int x3), (4, .int x4)] → fcJ_watch_95 u x1 x2 x3 x4 y0 = some rv → W p l e (rmX4_watch rv.1) s m args below meth c H locs 0 0 (gx_Ev D vwCl (cjA a) (cjW a cA) below args s (gk rv.1) (6 * gk rv.1) rv.1 rv.2) (F0 m 95 ls [.int y0]) := by
  obtain ⟨hx, hb, hml, hown, hts, hr, hlk⟩ := id B
  intro x1 x2 x3 x4 y0 u H locs ls V hl h
  unfold fcJ_watch_95 at h
  obtain ⟨v1, hv1, h⟩ := bi_e h
  refine gy_kv V (vx_runS (As := [.int y0]) (rest := []) ⟨hx, hb, hml, hown, hts⟩ (mX4_needState hl9 (D := D) (a := a) (cA := cA) (u := u) hv1) (cwS 1 hts gcjX4_108 rfl rfl rfl (by decide +kernel) ⟨Nat.le_of_ble_eq_true rfl, Nat.le_of_ble_eq_true rfl⟩) (gw_preS gX_ok C V [.int y0]) rfl rfl hl.1 rfl (lv_room (Nat.le_of_ble_eq_true rfl)) dX4_watch_95 (gkr (gk_le (fun q => in2a (if_f q h))))) (fun k0 H locs ce qe V hat => ?_) (fun k0 H locs V => ?_)
  · have h := if_f k0 h
    exact gx_out htab hlk V hat k0 (in2a h) (in2b h) (gk1 (fun q => k0 ((in2a h).trans q))).1 (gk1 (fun q => k0 ((in2a h).trans q))).2
  have h := if_t k0 h
  refine lv_aload_n hx hb dX4_watch_98 rfl (lv_at hl 0 rfl) ?_
  refine va_get (C := RX4) (T := TX4) (N := 4) (ci := 4) hx hb hts igX4 hown C.1 V.1 0 rfl rfl 3 (by decide) (hts _ kt_159) (fun _ h => h) rfl dX4_watch_99 ?_
  refine va_get (C := RX1) (T := TX1) (N := 7) (ci := 1) hx hb hts igX1 hown C.1 V.1 4 rfl rfl 4 (by decide) (hts _ kt_136) (fun _ h => h) rfl dX4_watch_102 ?_
  refine lv_iload_n hx hb dX4_watch_105 rfl (lv_at hl 1 rfl) ?_
  refine lv_iload_n hx hb dX4_watch_106 rfl (lv_at hl 2 rfl) ?_
  obtain ⟨i2, h⟩ := ck_e h
  obtain ⟨u3, eu3, h⟩ := gl_e h
  refine gw_iast (u' := u3) hx hb (cjW_as a cA) C V 25 0 rfl rfl i2 (cjS_20 _ _ _ _ _ _ eu3) dX4_watch_107 (fun H locs V => ?_)
  refine lv_aload_n hx hb dX4_watch_108 rfl (lv_at hl 0 rfl) ?_
  refine va_get (C := RX4) (T := TX4) (N := 4) (ci := 4) hx hb hts igX4 hown C.1 V.1 0 rfl rfl 3 (by decide) (hts _ kt_159) (fun _ h => h) rfl dX4_watch_109 ?_
  refine va_get (C := RX1) (T := TX1) (N := 7) (ci := 1) hx hb hts igX1 hown C.1 V.1 4 rfl rfl 5 (by decide) (hts _ kt_138) (fun _ h => h) rfl dX4_watch_112 ?_
  refine lv_iload_n hx hb dX4_watch_115 rfl (lv_at hl 1 rfl) ?_
  refine lv_iload_n hx hb dX4_watch_116 rfl (lv_at hl 3 rfl) ?_
  refine lv_iload hx hb dX4_watch_117 (lv_at hl 4 rfl) ?_
  refine va_mmin hx hb (hml.trans hl.1.symm) hown (hts _ kt_492) (hts _ kt_493) (hts _ kt_15) (hts _ kt_494) (Nat.le_of_ble_eq_true rfl) (Nat.le_of_ble_eq_true rfl) (Nat.zero_le _) (Nat.zero_le _) dX4_watch_119 ?_
  obtain ⟨i4, h⟩ := ck_e h
  obtain ⟨u5, eu5, h⟩ := gl_e h
  refine gw_iast (u' := u5) hx hb (cjW_as a cA) C V 26 0 rfl rfl i4 (cjS_21 _ _ _ _ _ _ eu5) dX4_watch_122 (fun H locs V => ?_)
  refine lv_aload_n hx hb dX4_watch_123 rfl (lv_at hl 0 rfl) ?_
  refine va_get (C := RX4) (T := TX4) (N := 4) (ci := 4) hx hb hts igX4 hown C.1 V.1 0 rfl rfl 3 (by decide) (hts _ kt_159) (fun _ h => h) rfl dX4_watch_124 ?_
  refine va_get (C := RX1) (T := TX1) (N := 7) (ci := 1) hx hb hts igX1 hown C.1 V.1 4 rfl rfl 6 (by decide) (hts _ kt_140) (fun _ h => h) rfl dX4_watch_127 ?_
  refine lv_iload_n hx hb dX4_watch_130 rfl (lv_at hl 1 rfl) ?_
  refine lv_iload_n hx hb dX4_watch_131 rfl (lv_at hl 3 rfl) ?_
  refine lv_iload hx hb dX4_watch_132 (lv_at hl 4 rfl) ?_
  refine va_mmax hx hb (hml.trans hl.1.symm) hown (hts _ kt_495) (hts _ kt_496) (hts _ kt_15) (hts _ kt_497) (Nat.le_of_ble_eq_true rfl) (Nat.le_of_ble_eq_true rfl) (Nat.zero_le _) (Nat.zero_le _) dX4_watch_134 ?_
  obtain ⟨i6, h⟩ := ck_e h
  obtain ⟨u7, eu7, h⟩ := gl_e h
  refine gw_iast (u' := u7) hx hb (cjW_as a cA) C V 27 0 rfl rfl i6 (cjS_22 _ _ _ _ _ _ eu7) dX4_watch_137 (fun H locs V => ?_)
  exact gx_retv hx hb hr hlk V (in2a h).symm (in2b h) (Nat.zero_le _) (Nat.zero_le _) dX4_watch_138
set_option maxHeartbeats 4000000 in
theorem LX4_watch_75 {p : Program} {l : Launch} {e : Env} {s : State} {m : MethodId} {below : List Frame} {meth : Method} {c : Code} {args : Array Value} {D : va_G} {a : Nat → Nat} {cA : ClassId} (hl9 : l.stackTraces = false) (B : gw_B p s m args meth c cX4_watch 5 none RX4 gT) (htab : ∀ x ∈ c.exceptionTable.toList, False) (C : gw_C D vwCl [(cA, .int)] (cjA a) gX s) {rv : Nat × g_S} : ∀ (x1 : Int32) (x2 : Int32) (x3 : Int32) (x4 : Int32) (y0 : Int32) (u : g_S) (H : Heap) (locs : List Loc) (ls : Array Slot), gw_V D vwCl (cjA a) (cjW a cA) s u H locs → lv_has ls 5 [(0, .ref (a 0)), (1, .int x1), (2, .int x2), (3, .int x3), (4, .int x4)] → fcJ_watch_75 u x1 x2 x3 x4 y0 = some rv → W p l e (rmX4_watch rv.1) s m args below meth c H locs 0 0 (gx_Ev D vwCl (cjA a) (cjW a cA) below args s (gk rv.1) (6 * gk rv.1) rv.1 rv.2) (F0 m 75 ls [.int y0]) := by
  obtain ⟨hx, hb, hml, hown, hts, hr, hlk⟩ := id B
  intro x1 x2 x3 x4 y0 u H locs ls V hl h
  unfold fcJ_watch_75 at h
  obtain ⟨v1, hv1, h⟩ := bi_e h
  refine gy_kv V (vx_runS (As := [.int y0]) (rest := []) ⟨hx, hb, hml, hown, hts⟩ (mX4_needRange hl9 (D := D) (a := a) (cA := cA) (u := u) hv1) (cwS 1 hts gcjX4_45 rfl rfl rfl (by decide +kernel) ⟨Nat.le_of_ble_eq_true rfl, Nat.le_of_ble_eq_true rfl⟩) (gw_preS gX_ok C V [.int y0]) rfl rfl hl.1 rfl (lv_room (Nat.le_of_ble_eq_true rfl)) dX4_watch_75 (gkr (gk_le (fun q => in2a (if_f q h))))) (fun k0 H locs ce qe V hat => ?_) (fun k0 H locs V => ?_)
  · have h := if_f k0 h
    exact gx_out htab hlk V hat k0 (in2a h) (in2b h) (gk1 (fun q => k0 ((in2a h).trans q))).1 (gk1 (fun q => k0 ((in2a h).trans q))).2
  have h := if_t k0 h
  refine lv_aload_n hx hb dX4_watch_78 rfl (lv_at hl 0 rfl) ?_
  refine va_get (C := RX4) (T := TX4) (N := 4) (ci := 4) hx hb hts igX4 hown C.1 V.1 0 rfl rfl 3 (by decide) (hts _ kt_159) (fun _ h => h) rfl dX4_watch_79 ?_
  refine va_get (C := RX1) (T := TX1) (N := 7) (ci := 1) hx hb hts igX1 hown C.1 V.1 4 rfl rfl 1 (by decide) (hts _ kt_130) (fun _ h => h) rfl dX4_watch_82 ?_
  refine lv_iload_n hx hb dX4_watch_85 rfl (lv_at hl 1 rfl) ?_
  obtain ⟨i2, h⟩ := ck_e h
  refine va_iald hx hb C.1 V.1 22 0 rfl rfl i2 dX4_watch_86 ?_
  refine lv_if_ne (tgt := 94) hx hb dX4_watch_87 (by decide) (fun c3 => ?_) (fun c3 => ?_)
  · have h := if_t c3 h
    refine lv_iconst (v := (0 : Int32)) hx hb dX4_watch_94 (by decide) ?_
    exact LX4_watch_95 hl9 B htab C x1 x2 x3 x4 (0 : Int32) u _ _ _ V (lv_sub hl [0, 1, 2, 3, 4] rfl) h
  · have h := if_nn c3 h
    refine lv_iconst (v := (1 : Int32)) hx hb dX4_watch_90 (by decide) ?_
    refine lv_goto (tgt := 95) hx hb dX4_watch_91 (by decide) ?_
    exact LX4_watch_95 hl9 B htab C x1 x2 x3 x4 (1 : Int32) u _ _ _ V (lv_sub hl [0, 1, 2, 3, 4] rfl) h
set_option maxHeartbeats 4000000 in
theorem LX4_watch_28 {p : Program} {l : Launch} {e : Env} {s : State} {m : MethodId} {below : List Frame} {meth : Method} {c : Code} {args : Array Value} {D : va_G} {a : Nat → Nat} {cA : ClassId} (hl9 : l.stackTraces = false) (B : gw_B p s m args meth c cX4_watch 5 none RX4 gT) (htab : ∀ x ∈ c.exceptionTable.toList, False) (C : gw_C D vwCl [(cA, .int)] (cjA a) gX s) {rv : Nat × g_S} : ∀ (x1 : Int32) (x2 : Int32) (x3 : Int32) (x4 : Int32) (y0 : Int32) (u : g_S) (H : Heap) (locs : List Loc) (ls : Array Slot), gw_V D vwCl (cjA a) (cjW a cA) s u H locs → lv_has ls 5 [(0, .ref (a 0)), (1, .int x1), (2, .int x2), (3, .int x3), (4, .int x4)] → fcJ_watch_28 u x1 x2 x3 x4 y0 = some rv → W p l e (rmX4_watch rv.1) s m args below meth c H locs 0 0 (gx_Ev D vwCl (cjA a) (cjW a cA) below args s (gk rv.1) (6 * gk rv.1) rv.1 rv.2) (F0 m 28 ls [.int y0]) := by
  obtain ⟨hx, hb, hml, hown, hts, hr, hlk⟩ := id B
  intro x1 x2 x3 x4 y0 u H locs ls V hl h
  unfold fcJ_watch_28 at h
  obtain ⟨v1, hv1, h⟩ := bi_e h
  refine gy_kv V (vx_runS (As := [.int y0]) (rest := []) ⟨hx, hb, hml, hown, hts⟩ (mX4_needKnown hl9 (D := D) (a := a) (cA := cA) (u := u) hv1) (cwS 1 hts gcjX4_41 rfl rfl rfl (by decide +kernel) ⟨Nat.le_of_ble_eq_true rfl, Nat.le_of_ble_eq_true rfl⟩) (gw_preS gX_ok C V [.int y0]) rfl rfl hl.1 rfl (lv_room (Nat.le_of_ble_eq_true rfl)) dX4_watch_28 (gkr (gk_le (fun q => in2a (if_f q h))))) (fun k0 H locs ce qe V hat => ?_) (fun k0 H locs V => ?_)
  · have h := if_f k0 h
    exact gx_out htab hlk V hat k0 (in2a h) (in2b h) (gk1 (fun q => k0 ((in2a h).trans q))).1 (gk1 (fun q => k0 ((in2a h).trans q))).2
  have h := if_t k0 h
  refine lv_iload_n hx hb dX4_watch_31 rfl (lv_at hl 3 rfl) ?_
  refine lv_aload_n hx hb dX4_watch_32 rfl (lv_at hl 0 rfl) ?_
  refine va_get (C := RX4) (T := TX4) (N := 4) (ci := 4) hx hb hts igX4 hown C.1 V.1 0 rfl rfl 1 (by decide) (hts _ kt_157) (fun _ h => h) rfl dX4_watch_33 ?_
  refine va_get (C := RX2) (T := TX2) (N := 2) (ci := 2) hx hb hts igX2 hown C.1 V.1 2 rfl rfl 0 (by decide) (hts _ kt_63) (fun _ h => h) rfl dX4_watch_36 ?_
  refine lv_iload_n hx hb dX4_watch_39 rfl (lv_at hl 2 rfl) ?_
  obtain ⟨i2, h⟩ := ck_e h
  refine va_iald hx hb C.1 V.1 10 0 rfl rfl i2 dX4_watch_40 ?_
  obtain ⟨v3, hv3, h⟩ := bi_e h
  refine gw_ki V (va_runS (As := [.int x3, .int (u.2 5 x2.toNatClampNeg)]) (rest := []) ⟨hx, hb, hml, hown, hts⟩ (mX4_isBelow (D := D) (a := a) (cA := cA) (u := u) hv3) (cwS 2 hts gcjX4_37 rfl rfl rfl (by decide +kernel) ⟨Nat.le_of_ble_eq_true rfl, Nat.le_of_ble_eq_true rfl⟩) (gw_preS gX_ok C V [.int x3, .int (u.2 5 x2.toNatClampNeg)]) rfl rfl hl.1 rfl (lv_room (Nat.le_of_ble_eq_true rfl)) dX4_watch_41 ⟨Nat.zero_le _, Nat.zero_le _⟩) (fun H locs V => ?_)
  refine lv_if_eq (tgt := 74) hx hb dX4_watch_44 (by decide) (fun c4 => ?_) (fun c4 => ?_)
  · have h := if_t c4 h
    refine lv_iconst (v := (0 : Int32)) hx hb dX4_watch_74 (by decide) ?_
    exact LX4_watch_75 hl9 B htab C x1 x2 x3 x4 (0 : Int32) u _ _ _ V (lv_sub hl [0, 1, 2, 3, 4] rfl) h
  · have h := if_f c4 h
    refine lv_iload hx hb dX4_watch_47 (lv_at hl 4 rfl) ?_
    refine lv_aload_n hx hb dX4_watch_49 rfl (lv_at hl 0 rfl) ?_
    refine va_get (C := RX4) (T := TX4) (N := 4) (ci := 4) hx hb hts igX4 hown C.1 V.1 0 rfl rfl 1 (by decide) (hts _ kt_157) (fun _ h => h) rfl dX4_watch_50 ?_
    refine va_get (C := RX2) (T := TX2) (N := 2) (ci := 2) hx hb hts igX2 hown C.1 V.1 2 rfl rfl 0 (by decide) (hts _ kt_63) (fun _ h => h) rfl dX4_watch_53 ?_
    refine lv_iload_n hx hb dX4_watch_56 rfl (lv_at hl 2 rfl) ?_
    obtain ⟨i5, h⟩ := ck_e h
    refine va_iald hx hb C.1 V.1 10 0 rfl rfl i5 dX4_watch_57 ?_
    obtain ⟨v6, hv6, h⟩ := bi_e h
    refine gw_ki V (va_runS (As := [.int x4, .int (u.2 5 x2.toNatClampNeg)]) (rest := []) ⟨hx, hb, hml, hown, hts⟩ (mX4_isBelow (D := D) (a := a) (cA := cA) (u := u) hv6) (cwS 2 hts gcjX4_37 rfl rfl rfl (by decide +kernel) ⟨Nat.le_of_ble_eq_true rfl, Nat.le_of_ble_eq_true rfl⟩) (gw_preS gX_ok C V [.int x4, .int (u.2 5 x2.toNatClampNeg)]) rfl rfl hl.1 rfl (lv_room (Nat.le_of_ble_eq_true rfl)) dX4_watch_58 ⟨Nat.zero_le _, Nat.zero_le _⟩) (fun H locs V => ?_)
    refine lv_if_eq (tgt := 74) hx hb dX4_watch_61 (by decide) (fun c7 => ?_) (fun c7 => ?_)
    · have h := if_t c7 h
      refine lv_iconst (v := (0 : Int32)) hx hb dX4_watch_74 (by decide) ?_
      exact LX4_watch_75 hl9 B htab C x1 x2 x3 x4 (0 : Int32) u _ _ _ V (lv_sub hl [0, 1, 2, 3, 4] rfl) h
    · have h := if_f c7 h
      refine lv_iload_n hx hb dX4_watch_64 rfl (lv_at hl 3 rfl) ?_
      refine lv_iload hx hb dX4_watch_65 (lv_at hl 4 rfl) ?_
      refine lv_icmp_eq (tgt := 74) hx hb dX4_watch_67 (by decide) (fun c8 => ?_) (fun c8 => ?_)
      · have h := if_t c8 h
        refine lv_iconst (v := (0 : Int32)) hx hb dX4_watch_74 (by decide) ?_
        exact LX4_watch_75 hl9 B htab C x1 x2 x3 x4 (0 : Int32) u _ _ _ V (lv_sub hl [0, 1, 2, 3, 4] rfl) h
      · have h := if_f c8 h
        refine lv_iconst (v := (1 : Int32)) hx hb dX4_watch_70 (by decide) ?_
        refine lv_goto (tgt := 75) hx hb dX4_watch_71 (by decide) ?_
        exact LX4_watch_75 hl9 B htab C x1 x2 x3 x4 (1 : Int32) u _ _ _ V (lv_sub hl [0, 1, 2, 3, 4] rfl) h
set_option maxHeartbeats 4000000 in
theorem mX4_watch {l : Launch} (hl9 : l.stackTraces = false) {D : va_G} {a : Nat → Nat} {cA : ClassId} {sz : Nat} {u : g_S} {p1 : Int32} {p2 : Int32} {p3 : Int32} {p4 : Int32} {rv : Nat × g_S} (h : fcJ_watch u p1 p2 p3 p4 = some rv) : gx_Mv D vwCl [(cA, .int)] (cjA a) gX (cjW a cA) l yX4_watch wxX4_watch (rmX4_watch rv.1) (gk rv.1) (6 * gk rv.1) sz u [.ref (a 0), .int p1, .int p2, .int p3, .int p4] rv.1 rv.2 := by
  refine gx_Mof (Qc := fun z => va_Qv (gx_Pv rv.1 rv.2) (gw_W D vwCl (cjW a cA)) (rg (cjA a) z)) (XC := fun z => vx_X (gx_Px rv.1 rv.2) (gx_W D vwCl (cjW a cA) rv.1) (rg (cjA a) z)) (cc := cX4_watch) (maxL := 5) (ret := none) (by decide) rfl ?_
  intro p e s m below meth c B htab C V
  obtain ⟨hx, hb, hml, hown, hts, hr, hlk⟩ := id B
  have hl := lv_entry ([.ref (a 0), .int p1, .int p2, .int p3, .int p4]) (n := 5) (Nat.le_of_ble_eq_true rfl)
  rw [lg_entry_eq]
  generalize (lg_sl ([.ref (a 0), .int p1, .int p2, .int p3, .int p4]) ++ List.replicate (5 - (lg_sl ([.ref (a 0), .int p1, .int p2, .int p3, .int p4])).length) Slot.unset).toArray = ls at hl ⊢
  have hl : lv_has ls 5 [(0, .ref (a 0)), (1, .int p1), (2, .int p2), (3, .int p3), (4, .int p4)] := hl
  unfold fcJ_watch at h
  refine lv_iload_n hx hb dX4_watch_0 rfl (lv_at hl 1 rfl) ?_
  refine lv_aload_n hx hb dX4_watch_1 rfl (lv_at hl 0 rfl) ?_
  refine va_get (C := RX4) (T := TX4) (N := 4) (ci := 4) hx hb hts igX4 hown C.1 V.1 0 rfl rfl 3 (by decide) (hts _ kt_159) (fun _ h => h) rfl dX4_watch_2 ?_
  refine va_get (C := RX1) (T := TX1) (N := 7) (ci := 1) hx hb hts igX1 hown C.1 V.1 4 rfl rfl 0 (by decide) (hts _ kt_128) (fun _ h => h) rfl dX4_watch_5 ?_
  obtain ⟨v1, hv1, h⟩ := bi_e h
  refine gw_ki V (va_runS (As := [.int p1, .int (u.1 1)]) (rest := []) ⟨hx, hb, hml, hown, hts⟩ (mX4_isBelow (D := D) (a := a) (cA := cA) (u := u) hv1) (cwS 2 hts gcjX4_37 rfl rfl rfl (by decide +kernel) ⟨Nat.le_of_ble_eq_true rfl, Nat.le_of_ble_eq_true rfl⟩) (gw_preS gX_ok C V [.int p1, .int (u.1 1)]) rfl rfl hl.1 rfl (lv_room (Nat.le_of_ble_eq_true rfl)) dX4_watch_8 ⟨Nat.zero_le _, Nat.zero_le _⟩) (fun H locs V => ?_)
  refine lv_if_eq (tgt := 27) hx hb dX4_watch_11 (by decide) (fun c2 => ?_) (fun c2 => ?_)
  · have h := if_t c2 h
    refine lv_iconst (v := (0 : Int32)) hx hb dX4_watch_27 (by decide) ?_
    exact LX4_watch_28 hl9 B htab C p1 p2 p3 p4 (0 : Int32) u _ _ _ V (lv_sub hl [0, 1, 2, 3, 4] rfl) h
  · have h := if_f c2 h
    refine lv_iload_n hx hb dX4_watch_14 rfl (lv_at hl 2 rfl) ?_
    refine lv_bipush (v := (8 : Int32)) hx hb dX4_watch_15 (by decide) ?_
    obtain ⟨v3, hv3, h⟩ := bi_e h
    refine gw_ki V (va_runS (As := [.int p2, .int (8 : Int32)]) (rest := []) ⟨hx, hb, hml, hown, hts⟩ (mX4_isBelow (D := D) (a := a) (cA := cA) (u := u) hv3) (cwS 2 hts gcjX4_37 rfl rfl rfl (by decide +kernel) ⟨Nat.le_of_ble_eq_true rfl, Nat.le_of_ble_eq_true rfl⟩) (gw_preS gX_ok C V [.int p2, .int (8 : Int32)]) rfl rfl hl.1 rfl (lv_room (Nat.le_of_ble_eq_true rfl)) dX4_watch_17 ⟨Nat.zero_le _, Nat.zero_le _⟩) (fun H locs V => ?_)
    refine lv_if_eq (tgt := 27) hx hb dX4_watch_20 (by decide) (fun c4 => ?_) (fun c4 => ?_)
    · have h := if_t c4 h
      refine lv_iconst (v := (0 : Int32)) hx hb dX4_watch_27 (by decide) ?_
      exact LX4_watch_28 hl9 B htab C p1 p2 p3 p4 (0 : Int32) u _ _ _ V (lv_sub hl [0, 1, 2, 3, 4] rfl) h
    · have h := if_f c4 h
      refine lv_iconst (v := (1 : Int32)) hx hb dX4_watch_23 (by decide) ?_
      refine lv_goto (tgt := 28) hx hb dX4_watch_24 (by decide) ?_
      exact LX4_watch_28 hl9 B htab C p1 p2 p3 p4 (1 : Int32) u _ _ _ V (lv_sub hl [0, 1, 2, 3, 4] rfl) h
