set_option maxHeartbeats 4000000 in
theorem LX6_state_59 {p : Program} {l : Launch} {e : Env} {s : State} {m : MethodId} {below : List Frame} {meth : Method} {c : Code} {args : Array Value} {D : va_G} {a : Nat → Nat} {cA : ClassId} (B : gw_B p s m args meth c cX6_state 4 none RX6 gT) (C : gw_C D vwCl [(cA, .int)] (mdA a) gY s) {rv : g_S} : ∀ (x1 : Int32) (x2 : Int32) (y1 : Int32) (y2 : Int32) (y3 : Int32) (u : g_S) (H : Heap) (locs : List Loc) (ls : Array Slot), gw_V D vwCl (mdA a) (mdW a cA) s u H locs → lv_has ls 4 [(0, .ref (a 0)), (1, .int x1), (2, .int x2)] → fm_state_59 u x1 x2 y1 y2 y3 = some rv → W p l e rmX6_state s m args below meth c H locs 0 0 (gw_Ev D vwCl (mdA a) (mdW a cA) below args s rv) (F0 m 59 ls [.int y3, .int y2, .int y1, .ref (a 0)]) := by
  obtain ⟨hx, hb, hml, hown, hts, hr, hlk⟩ := id B
  intro x1 x2 y1 y2 y3 u H locs ls V hl h
  unfold fm_state_59 at h
  obtain ⟨v1, hv1, h⟩ := bi_e h
  refine gw_ki V (va_runV (As := [.int y1, .int y2, .int y3]) (rest := []) ⟨hx, hb, hml, hown, hts⟩ (mX6_throwing (D := D) (a := a) (cA := cA) (u := u) hv1) (cwV 3 hts gmdX6_90 rfl rfl rfl (by decide +kernel) ⟨Nat.le_of_ble_eq_true rfl, Nat.le_of_ble_eq_true rfl⟩) (gw_preV (q0 := 0) (ci := 5) gY_ok C V [.int y1, .int y2, .int y3] rfl rfl) rfl rfl hl.1 rfl (lv_room (Nat.le_of_ble_eq_true rfl)) dX6_state_59 ⟨Nat.zero_le _, Nat.zero_le _⟩) (fun H locs V => ?_)
  refine lv_if_eq (tgt := 66) hx hb dX6_state_62 (by decide) (fun c2 => ?_) (fun c2 => ?_)
  · have h := if_t c2 h
    refine lv_aload_n hx hb dX6_state_66 rfl (lv_at hl 0 rfl) ?_
    refine va_get (C := RX6) (T := TX6) (N := 24) (ci := 5) hx hb hts igX6 hown C.1 V.1 0 rfl rfl 19 (by decide) (hts _ kt_622) (fun _ h => h) rfl dX6_state_67 ?_
    refine lv_iload_n hx hb dX6_state_70 rfl (lv_at hl 1 rfl) ?_
    refine lv_iload_n hx hb dX6_state_71 rfl (lv_at hl 2 rfl) ?_
    obtain ⟨i3, h⟩ := ck_e h
    obtain ⟨u4, eu4, h⟩ := gl_e h
    refine gw_iast (u' := u4) hx hb (mdW_as a cA) C V 17 0 rfl rfl i3 (mdS_16 _ _ _ _ _ _ eu4) dX6_state_72 (fun H locs V => ?_)
    exact gw_retv hx hb hr hlk V (Option.some.inj h) dX6_state_73
  · have h := if_f c2 h
    exact gw_retv hx hb hr hlk V (Option.some.inj h) dX6_state_65
set_option maxHeartbeats 4000000 in
theorem LX6_state_30 {p : Program} {l : Launch} {e : Env} {s : State} {m : MethodId} {below : List Frame} {meth : Method} {c : Code} {args : Array Value} {D : va_G} {a : Nat → Nat} {cA : ClassId} (B : gw_B p s m args meth c cX6_state 4 none RX6 gT) (C : gw_C D vwCl [(cA, .int)] (mdA a) gY s) {rv : g_S} : ∀ (x1 : Int32) (x2 : Int32) (x3 : Int32) (y1 : Int32) (y2 : Int32) (u : g_S) (H : Heap) (locs : List Loc) (ls : Array Slot), gw_V D vwCl (mdA a) (mdW a cA) s u H locs → lv_has ls 4 [(0, .ref (a 0)), (1, .int x1), (2, .int x2), (3, .int x3)] → fm_state_30 u x1 x2 x3 y1 y2 = some rv → W p l e rmX6_state s m args below meth c H locs 0 0 (gw_Ev D vwCl (mdA a) (mdW a cA) below args s rv) (F0 m 30 ls [.int y2, .int y1, .ref (a 0)]) := by
  obtain ⟨hx, hb, hml, hown, hts, hr, hlk⟩ := id B
  intro x1 x2 x3 y1 y2 u H locs ls V hl h
  unfold fm_state_30 at h
  refine lv_iload_n hx hb dX6_state_30 rfl (lv_at hl 3 rfl) ?_
  refine lv_if_eq (tgt := 58) hx hb dX6_state_31 (by decide) (fun c1 => ?_) (fun c1 => ?_)
  · have h := if_t c1 h
    refine lv_iconst (v := (0 : Int32)) hx hb dX6_state_58 (by decide) ?_
    exact LX6_state_59 B C x1 x2 y1 y2 (0 : Int32) u _ _ _ V (lv_sub hl [0, 1, 2] rfl) h
  · have h := if_f c1 h
    refine lv_aload_n hx hb dX6_state_34 rfl (lv_at hl 0 rfl) ?_
    refine va_get (C := RX6) (T := TX6) (N := 24) (ci := 5) hx hb hts igX6 hown C.1 V.1 0 rfl rfl 19 (by decide) (hts _ kt_622) (fun _ h => h) rfl dX6_state_35 ?_
    refine lv_iload_n hx hb dX6_state_38 rfl (lv_at hl 1 rfl) ?_
    obtain ⟨i2, h⟩ := ck_e h
    refine va_iald hx hb C.1 V.1 17 0 rfl rfl i2 dX6_state_39 ?_
    refine lv_iload_n hx hb dX6_state_40 rfl (lv_at hl 2 rfl) ?_
    refine lv_icmp_eq (tgt := 54) hx hb dX6_state_41 (by decide) (fun c3 => ?_) (fun c3 => ?_)
    · have h := if_t c3 h
      refine lv_iconst (v := (1 : Int32)) hx hb dX6_state_54 (by decide) ?_
      refine lv_goto (tgt := 59) hx hb dX6_state_55 (by decide) ?_
      exact LX6_state_59 B C x1 x2 y1 y2 (1 : Int32) u _ _ _ V (lv_sub hl [0, 1, 2] rfl) h
    · have h := if_f c3 h
      refine lv_aload_n hx hb dX6_state_44 rfl (lv_at hl 0 rfl) ?_
      refine va_get (C := RX6) (T := TX6) (N := 24) (ci := 5) hx hb hts igX6 hown C.1 V.1 0 rfl rfl 19 (by decide) (hts _ kt_622) (fun _ h => h) rfl dX6_state_45 ?_
      refine lv_iload_n hx hb dX6_state_48 rfl (lv_at hl 1 rfl) ?_
      obtain ⟨i4, h⟩ := ck_e h
      refine va_iald hx hb C.1 V.1 17 0 rfl rfl i4 dX6_state_49 ?_
      refine lv_iconst (v := (3 : Int32)) hx hb dX6_state_50 (by decide) ?_
      refine lv_icmp_ne (tgt := 58) hx hb dX6_state_51 (by decide) (fun c5 => ?_) (fun c5 => ?_)
      · have h := if_t c5 h
        refine lv_iconst (v := (0 : Int32)) hx hb dX6_state_58 (by decide) ?_
        exact LX6_state_59 B C x1 x2 y1 y2 (0 : Int32) u _ _ _ V (lv_sub hl [0, 1, 2] rfl) h
      · have h := if_nn c5 h
        refine lv_iconst (v := (1 : Int32)) hx hb dX6_state_54 (by decide) ?_
        refine lv_goto (tgt := 59) hx hb dX6_state_55 (by decide) ?_
        exact LX6_state_59 B C x1 x2 y1 y2 (1 : Int32) u _ _ _ V (lv_sub hl [0, 1, 2] rfl) h
set_option maxHeartbeats 4000000 in
theorem LX6_state_16 {p : Program} {l : Launch} {e : Env} {s : State} {m : MethodId} {below : List Frame} {meth : Method} {c : Code} {args : Array Value} {D : va_G} {a : Nat → Nat} {cA : ClassId} (B : gw_B p s m args meth c cX6_state 4 none RX6 gT) (C : gw_C D vwCl [(cA, .int)] (mdA a) gY s) {rv : g_S} : ∀ (x1 : Int32) (x2 : Int32) (x3 : Int32) (y1 : Int32) (u : g_S) (H : Heap) (locs : List Loc) (ls : Array Slot), gw_V D vwCl (mdA a) (mdW a cA) s u H locs → lv_has ls 4 [(0, .ref (a 0)), (1, .int x1), (2, .int x2), (3, .int x3)] → fm_state_16 u x1 x2 x3 y1 = some rv → W p l e rmX6_state s m args below meth c H locs 0 0 (gw_Ev D vwCl (mdA a) (mdW a cA) below args s rv) (F0 m 16 ls [.int y1, .ref (a 0)]) := by
  obtain ⟨hx, hb, hml, hown, hts, hr, hlk⟩ := id B
  intro x1 x2 x3 y1 u H locs ls V hl h
  unfold fm_state_16 at h
  refine lv_iload_n hx hb dX6_state_16 rfl (lv_at hl 2 rfl) ?_
  refine lv_iconst (v := (0 : Int32)) hx hb dX6_state_17 (by decide) ?_
  refine lv_iconst (v := (2 : Int32)) hx hb dX6_state_18 (by decide) ?_
  obtain ⟨v1, hv1, h⟩ := bi_e h
  refine gw_ki V (va_runS (As := [.int x2, .int (0 : Int32), .int (2 : Int32)]) (rest := [.int y1, .ref (a 0)]) ⟨hx, hb, hml, hown, hts⟩ (mX6_in (D := D) (a := a) (cA := cA) (u := u) hv1) (cwS 3 hts gmdX6_74 rfl rfl rfl (by decide +kernel) ⟨Nat.le_of_ble_eq_true rfl, Nat.le_of_ble_eq_true rfl⟩) (gw_preS gY_ok C V [.int x2, .int (0 : Int32), .int (2 : Int32)]) rfl rfl hl.1 rfl (lv_room (Nat.le_of_ble_eq_true rfl)) dX6_state_19 ⟨Nat.zero_le _, Nat.zero_le _⟩) (fun H locs V => ?_)
  refine lv_if_ne (tgt := 29) hx hb dX6_state_22 (by decide) (fun c2 => ?_) (fun c2 => ?_)
  · have h := if_t c2 h
    refine lv_iconst (v := (0 : Int32)) hx hb dX6_state_29 (by decide) ?_
    exact LX6_state_30 B C x1 x2 x3 y1 (0 : Int32) u _ _ _ V (lv_sub hl [0, 1, 2, 3] rfl) h
  · have h := if_nn c2 h
    refine lv_iconst (v := (1 : Int32)) hx hb dX6_state_25 (by decide) ?_
    refine lv_goto (tgt := 30) hx hb dX6_state_26 (by decide) ?_
    exact LX6_state_30 B C x1 x2 x3 y1 (1 : Int32) u _ _ _ V (lv_sub hl [0, 1, 2, 3] rfl) h
set_option maxHeartbeats 4000000 in
theorem mX6_state {l : Launch} {D : va_G} {a : Nat → Nat} {cA : ClassId} {sz : Nat} {u : g_S} {p1 : Int32} {p2 : Int32} {rv : g_S} (h : fm_state u p1 p2 = some rv) : gw_Mv D vwCl [(cA, .int)] (mdA a) gY (mdW a cA) l yX6_state wxX6_state rmX6_state sz u [.ref (a 0), .int p1, .int p2] rv := by
  refine gw_Mof (Qc := fun z => va_Qv (gw_Pv rv) (gw_W D vwCl (mdW a cA)) (rg (mdA a) z)) (cc := cX6_state) (maxL := 4) (ret := none) (by decide) rfl ?_
  intro p e s m below meth c B C V
  obtain ⟨hx, hb, hml, hown, hts, hr, hlk⟩ := id B
  have hl := lv_entry ([.ref (a 0), .int p1, .int p2]) (n := 4) (Nat.le_of_ble_eq_true rfl)
  rw [lg_entry_eq]
  generalize (lg_sl ([.ref (a 0), .int p1, .int p2]) ++ List.replicate (4 - (lg_sl ([.ref (a 0), .int p1, .int p2])).length) Slot.unset).toArray = ls at hl ⊢
  have hl : lv_has ls 4 [(0, .ref (a 0)), (1, .int p1), (2, .int p2)] := hl
  unfold fm_state at h
  refine lv_aload_n hx hb dX6_state_0 rfl (lv_at hl 0 rfl) ?_
  refine lv_iload_n hx hb dX6_state_1 rfl (lv_at hl 1 rfl) ?_
  obtain ⟨v1, hv1, h⟩ := bi_e h
  refine gw_ki V (va_runV (As := [.int p1]) (rest := []) ⟨hx, hb, hml, hown, hts⟩ (mX6_isEvent (D := D) (a := a) (cA := cA) (u := u) hv1) (cwV 1 hts gmdX6_170 rfl rfl rfl (by decide +kernel) ⟨Nat.le_of_ble_eq_true rfl, Nat.le_of_ble_eq_true rfl⟩) (gw_preV (q0 := 0) (ci := 5) gY_ok C V [.int p1] rfl rfl) rfl rfl hl.1 rfl (lv_room (Nat.le_of_ble_eq_true rfl)) dX6_state_2 ⟨Nat.zero_le _, Nat.zero_le _⟩) (fun H locs V => ?_)
  refine lv_istore_n (lv' := [(3, .int v1), (0, .ref (a 0)), (1, .int p1), (2, .int p2)]) hx hb dX6_state_5 rfl hl (by decide) rfl (fun ls hl => ?_)
  refine lv_aload_n hx hb dX6_state_6 rfl (lv_at hl 1 rfl) ?_
  refine lv_iload_n hx hb dX6_state_7 rfl (lv_at hl 0 rfl) ?_
  refine lv_if_ne (tgt := 15) hx hb dX6_state_8 (by decide) (fun c2 => ?_) (fun c2 => ?_)
  · have h := if_t c2 h
    refine lv_iconst (v := (0 : Int32)) hx hb dX6_state_15 (by decide) ?_
    exact LX6_state_16 B C p1 p2 v1 (0 : Int32) u _ _ _ V (lv_sub hl [1, 2, 3, 0] rfl) h
  · have h := if_nn c2 h
    refine lv_iconst (v := (1 : Int32)) hx hb dX6_state_11 (by decide) ?_
    refine lv_goto (tgt := 16) hx hb dX6_state_12 (by decide) ?_
    exact LX6_state_16 B C p1 p2 v1 (1 : Int32) u _ _ _ V (lv_sub hl [1, 2, 3, 0] rfl) h
set_option maxHeartbeats 4000000 in
theorem LX6_share_101 {p : Program} {l : Launch} {e : Env} {s : State} {m : MethodId} {below : List Frame} {meth : Method} {c : Code} {args : Array Value} {D : va_G} {a : Nat → Nat} {cA : ClassId} (B : gw_B p s m args meth c cX6_share 6 (some .int) RX6 gT) (C : gw_C D vwCl [(cA, .int)] (mdA a) gY s) {rv : Int32 × g_S} : ∀ (x1 : Int32) (x2 : Int32) (x4 : Int32) (x5 : Int32) (y1 : Int32) (y2 : Int32) (u : g_S) (H : Heap) (locs : List Loc) (ls : Array Slot), gw_V D vwCl (mdA a) (mdW a cA) s u H locs → lv_has ls 6 [(0, .ref (a 0)), (1, .int x1), (2, .int x2), (4, .int x4), (5, .int x5)] → fm_share_101 u x1 x2 x4 x5 y1 y2 = some rv → W p l e rmX6_share s m args below meth c H locs 0 0 (gw_Ei D vwCl (mdA a) (mdW a cA) below args s rv.1 rv.2) (F0 m 101 ls [.int y2, .int y1, .ref (a 0)]) := by
  obtain ⟨hx, hb, hml, hown, hts, hr, hlk⟩ := id B
  intro x1 x2 x4 x5 y1 y2 u H locs ls V hl h
  unfold fm_share_101 at h
  refine lv_iconst (v := (0 : Int32)) hx hb dX6_share_101 (by decide) ?_
  obtain ⟨v1, hv1, h⟩ := bi_e h
  refine gw_ki V (va_runV (As := [.int y1, .int y2, .int (0 : Int32)]) (rest := []) ⟨hx, hb, hml, hown, hts⟩ (mX6_throwing (D := D) (a := a) (cA := cA) (u := u) hv1) (cwV 3 hts gmdX6_90 rfl rfl rfl (by decide +kernel) ⟨Nat.le_of_ble_eq_true rfl, Nat.le_of_ble_eq_true rfl⟩) (gw_preV (q0 := 0) (ci := 5) gY_ok C V [.int y1, .int y2, .int (0 : Int32)] rfl rfl) rfl rfl hl.1 rfl (lv_room (Nat.le_of_ble_eq_true rfl)) dX6_share_102 ⟨Nat.zero_le _, Nat.zero_le _⟩) (fun H locs V => ?_)
  refine lv_if_eq (tgt := 110) hx hb dX6_share_105 (by decide) (fun c2 => ?_) (fun c2 => ?_)
  · have h := if_t c2 h
    refine lv_sipush (v := (1000 : Int32)) hx hb dX6_share_110 (by decide) ?_
    refine lv_aload_n hx hb dX6_share_113 rfl (lv_at hl 0 rfl) ?_
    refine lv_aload_n hx hb dX6_share_114 rfl (lv_at hl 0 rfl) ?_
    refine va_get (C := RX6) (T := TX6) (N := 24) (ci := 5) hx hb hts igX6 hown C.1 V.1 0 rfl rfl 13 (by decide) (hts _ kt_616) (fun _ h => h) rfl dX6_share_115 ?_
    refine lv_iload_n hx hb dX6_share_118 rfl (lv_at hl 1 rfl) ?_
    obtain ⟨i3, h⟩ := ck_e h
    refine va_iald hx hb C.1 V.1 11 0 rfl rfl i3 dX6_share_119 ?_
    refine lv_aload_n hx hb dX6_share_120 rfl (lv_at hl 0 rfl) ?_
    refine va_get (C := RX6) (T := TX6) (N := 24) (ci := 5) hx hb hts igX6 hown C.1 V.1 0 rfl rfl 13 (by decide) (hts _ kt_616) (fun _ h => h) rfl dX6_share_121 ?_
    refine lv_iload_n hx hb dX6_share_124 rfl (lv_at hl 2 rfl) ?_
    obtain ⟨i4, h⟩ := ck_e h
    refine va_iald hx hb C.1 V.1 11 0 rfl rfl i4 dX6_share_125 ?_
    refine lv_iand hx hb dX6_share_126 ?_
    refine lv_iload hx hb dX6_share_127 (lv_at hl 3 rfl) ?_
    obtain ⟨v5, hv5, h⟩ := bi_e h
    refine gw_ki V (va_runV (As := [.int ((v1.2.2 10 x1.toNatClampNeg) &&& (v1.2.2 10 x2.toNatClampNeg)), .int x4]) (rest := [.int (1000 : Int32)]) ⟨hx, hb, hml, hown, hts⟩ (mX6_sum (D := D) (a := a) (cA := cA) (u := v1.2) hv5) (cwV 2 hts gmdX6_100 rfl rfl rfl (by decide +kernel) ⟨Nat.le_of_ble_eq_true rfl, Nat.le_of_ble_eq_true rfl⟩) (gw_preV (q0 := 0) (ci := 5) gY_ok C V [.int ((v1.2.2 10 x1.toNatClampNeg) &&& (v1.2.2 10 x2.toNatClampNeg)), .int x4] rfl rfl) rfl rfl hl.1 rfl (lv_room (Nat.le_of_ble_eq_true rfl)) dX6_share_129 ⟨Nat.zero_le _, Nat.zero_le _⟩) (fun H locs V => ?_)
    refine lv_imul hx hb dX6_share_132 ?_
    refine lv_iload hx hb dX6_share_133 (lv_at hl 4 rfl) ?_
    obtain ⟨z6, h⟩ := if_z h
    refine lv_idiv hx hb dX6_share_135 z6 ?_
    exact gw_reti hx hb hr rfl hlk V (in2a h) (in2b h) dX6_share_136
  · have h := if_f c2 h
    refine lv_iconst (v := (0 : Int32)) hx hb dX6_share_108 (by decide) ?_
    exact gw_reti hx hb hr rfl hlk V (in2a h) (in2b h) dX6_share_109
set_option maxHeartbeats 4000000 in
theorem LX6_share_79 {p : Program} {l : Launch} {e : Env} {s : State} {m : MethodId} {below : List Frame} {meth : Method} {c : Code} {args : Array Value} {D : va_G} {a : Nat → Nat} {cA : ClassId} (B : gw_B p s m args meth c cX6_share 6 (some .int) RX6 gT) (C : gw_C D vwCl [(cA, .int)] (mdA a) gY s) {rv : Int32 × g_S} : ∀ (x1 : Int32) (x2 : Int32) (x3 : Int32) (x4 : Int32) (y0 : Int32) (u : g_S) (H : Heap) (locs : List Loc) (ls : Array Slot), gw_V D vwCl (mdA a) (mdW a cA) s u H locs → lv_has ls 6 [(0, .ref (a 0)), (1, .int x1), (2, .int x2), (3, .int x3), (4, .int x4)] → fm_share_79 u x1 x2 x3 x4 y0 = some rv → W p l e rmX6_share s m args below meth c H locs 0 0 (gw_Ei D vwCl (mdA a) (mdW a cA) below args s rv.1 rv.2) (F0 m 79 ls [.int y0]) := by
  obtain ⟨hx, hb, hml, hown, hts, hr, hlk⟩ := id B
  intro x1 x2 x3 x4 y0 u H locs ls V hl h
  unfold fm_share_79 at h
  refine lv_istore (lv' := [(5, .int y0), (0, .ref (a 0)), (1, .int x1), (2, .int x2), (3, .int x3), (4, .int x4)]) hx hb dX6_share_79 hl (by decide) rfl (fun ls hl => ?_)
  refine lv_aload_n hx hb dX6_share_81 rfl (lv_at hl 1 rfl) ?_
  refine lv_iload_n hx hb dX6_share_82 rfl (lv_at hl 4 rfl) ?_
  refine lv_if_ne (tgt := 90) hx hb dX6_share_83 (by decide) (fun c1 => ?_) (fun c1 => ?_)
  · have h := if_t c1 h
    refine lv_iconst (v := (0 : Int32)) hx hb dX6_share_90 (by decide) ?_
    refine lv_iload hx hb dX6_share_91 (lv_at hl 0 rfl) ?_
    refine lv_if_ne (tgt := 100) hx hb dX6_share_93 (by decide) (fun c2 => ?_) (fun c2 => ?_)
    · have h := if_t c2 h
      refine lv_iconst (v := (0 : Int32)) hx hb dX6_share_100 (by decide) ?_
      exact LX6_share_101 B C x1 x2 x4 y0 (0 : Int32) (0 : Int32) u _ _ _ V (lv_sub hl [1, 2, 3, 5, 0] rfl) h
    · have h := if_nn c2 h
      refine lv_iconst (v := (1 : Int32)) hx hb dX6_share_96 (by decide) ?_
      refine lv_goto (tgt := 101) hx hb dX6_share_97 (by decide) ?_
      exact LX6_share_101 B C x1 x2 x4 y0 (0 : Int32) (1 : Int32) u _ _ _ V (lv_sub hl [1, 2, 3, 5, 0] rfl) h
  · have h := if_nn c1 h
    refine lv_iconst (v := (1 : Int32)) hx hb dX6_share_86 (by decide) ?_
    refine lv_goto (tgt := 91) hx hb dX6_share_87 (by decide) ?_
    refine lv_iload hx hb dX6_share_91 (lv_at hl 0 rfl) ?_
    refine lv_if_ne (tgt := 100) hx hb dX6_share_93 (by decide) (fun c3 => ?_) (fun c3 => ?_)
    · have h := if_t c3 h
      refine lv_iconst (v := (0 : Int32)) hx hb dX6_share_100 (by decide) ?_
      exact LX6_share_101 B C x1 x2 x4 y0 (1 : Int32) (0 : Int32) u _ _ _ V (lv_sub hl [1, 2, 3, 5, 0] rfl) h
    · have h := if_nn c3 h
      refine lv_iconst (v := (1 : Int32)) hx hb dX6_share_96 (by decide) ?_
      refine lv_goto (tgt := 101) hx hb dX6_share_97 (by decide) ?_
      exact LX6_share_101 B C x1 x2 x4 y0 (1 : Int32) (1 : Int32) u _ _ _ V (lv_sub hl [1, 2, 3, 5, 0] rfl) h
set_option maxHeartbeats 4000000 in
theorem LX6_share_50 {p : Program} {l : Launch} {e : Env} {s : State} {m : MethodId} {below : List Frame} {meth : Method} {c : Code} {args : Array Value} {D : va_G} {a : Nat → Nat} {cA : ClassId} (B : gw_B p s m args meth c cX6_share 6 (some .int) RX6 gT) (C : gw_C D vwCl [(cA, .int)] (mdA a) gY s) {rv : Int32 × g_S} : ∀ (x1 : Int32) (x2 : Int32) (x3 : Int32) (y0 : Int32) (u : g_S) (H : Heap) (locs : List Loc) (ls : Array Slot), gw_V D vwCl (mdA a) (mdW a cA) s u H locs → lv_has ls 6 [(0, .ref (a 0)), (1, .int x1), (2, .int x2), (3, .int x3)] → fm_share_50 u x1 x2 x3 y0 = some rv → W p l e rmX6_share s m args below meth c H locs 0 0 (gw_Ei D vwCl (mdA a) (mdW a cA) below args s rv.1 rv.2) (F0 m 50 ls [.int y0]) := by
  obtain ⟨hx, hb, hml, hown, hts, hr, hlk⟩ := id B
  intro x1 x2 x3 y0 u H locs ls V hl h
  unfold fm_share_50 at h
  refine lv_istore (lv' := [(4, .int y0), (0, .ref (a 0)), (1, .int x1), (2, .int x2), (3, .int x3)]) hx hb dX6_share_50 hl (by decide) rfl (fun ls hl => ?_)
  refine lv_iload_n hx hb dX6_share_52 rfl (lv_at hl 4 rfl) ?_
  refine lv_if_eq (tgt := 78) hx hb dX6_share_53 (by decide) (fun c1 => ?_) (fun c1 => ?_)
  · have h := if_t c1 h
    refine lv_iconst (v := (0 : Int32)) hx hb dX6_share_78 (by decide) ?_
    exact LX6_share_79 B C x1 x2 x3 y0 (0 : Int32) u _ _ _ V (lv_sub hl [1, 2, 3, 4, 0] rfl) h
  · have h := if_f c1 h
    refine lv_aload_n hx hb dX6_share_56 rfl (lv_at hl 1 rfl) ?_
    refine lv_aload_n hx hb dX6_share_57 rfl (lv_at hl 1 rfl) ?_
    refine va_get (C := RX6) (T := TX6) (N := 24) (ci := 5) hx hb hts igX6 hown C.1 V.1 0 rfl rfl 13 (by decide) (hts _ kt_616) (fun _ h => h) rfl dX6_share_58 ?_
    refine lv_iload_n hx hb dX6_share_61 rfl (lv_at hl 2 rfl) ?_
    obtain ⟨i2, h⟩ := ck_e h
    refine va_iald hx hb C.1 V.1 11 0 rfl rfl i2 dX6_share_62 ?_
    refine lv_aload_n hx hb dX6_share_63 rfl (lv_at hl 1 rfl) ?_
    refine va_get (C := RX6) (T := TX6) (N := 24) (ci := 5) hx hb hts igX6 hown C.1 V.1 0 rfl rfl 13 (by decide) (hts _ kt_616) (fun _ h => h) rfl dX6_share_64 ?_
    refine lv_iload_n hx hb dX6_share_67 rfl (lv_at hl 3 rfl) ?_
    obtain ⟨i3, h⟩ := ck_e h
    refine va_iald hx hb C.1 V.1 11 0 rfl rfl i3 dX6_share_68 ?_
    refine lv_ior hx hb dX6_share_69 ?_
    refine lv_iload hx hb dX6_share_70 (lv_at hl 0 rfl) ?_
    obtain ⟨v4, hv4, h⟩ := bi_e h
    refine gw_ki V (va_runV (As := [.int ((u.2 10 x1.toNatClampNeg) ||| (u.2 10 x2.toNatClampNeg)), .int y0]) (rest := []) ⟨hx, hb, hml, hown, hts⟩ (mX6_sum (D := D) (a := a) (cA := cA) (u := u) hv4) (cwV 2 hts gmdX6_100 rfl rfl rfl (by decide +kernel) ⟨Nat.le_of_ble_eq_true rfl, Nat.le_of_ble_eq_true rfl⟩) (gw_preV (q0 := 0) (ci := 5) gY_ok C V [.int ((u.2 10 x1.toNatClampNeg) ||| (u.2 10 x2.toNatClampNeg)), .int y0] rfl rfl) rfl rfl hl.1 rfl (lv_room (Nat.le_of_ble_eq_true rfl)) dX6_share_72 ⟨Nat.zero_le _, Nat.zero_le _⟩) (fun H locs V => ?_)
    refine lv_goto (tgt := 79) hx hb dX6_share_75 (by decide) ?_
    exact LX6_share_79 B C x1 x2 x3 y0 v4 u _ _ _ V (lv_sub hl [1, 2, 3, 4, 0] rfl) h
set_option maxHeartbeats 4000000 in
theorem LX6_share_26 {p : Program} {l : Launch} {e : Env} {s : State} {m : MethodId} {below : List Frame} {meth : Method} {c : Code} {args : Array Value} {D : va_G} {a : Nat → Nat} {cA : ClassId} (B : gw_B p s m args meth c cX6_share 6 (some .int) RX6 gT) (C : gw_C D vwCl [(cA, .int)] (mdA a) gY s) {rv : Int32 × g_S} : ∀ (x1 : Int32) (x2 : Int32) (y0 : Int32) (u : g_S) (H : Heap) (locs : List Loc) (ls : Array Slot), gw_V D vwCl (mdA a) (mdW a cA) s u H locs → lv_has ls 6 [(0, .ref (a 0)), (1, .int x1), (2, .int x2)] → fm_share_26 u x1 x2 y0 = some rv → W p l e rmX6_share s m args below meth c H locs 0 0 (gw_Ei D vwCl (mdA a) (mdW a cA) below args s rv.1 rv.2) (F0 m 26 ls [.int y0]) := by
  obtain ⟨hx, hb, hml, hown, hts, hr, hlk⟩ := id B
  intro x1 x2 y0 u H locs ls V hl h
  unfold fm_share_26 at h
  refine lv_istore_n (lv' := [(3, .int y0), (0, .ref (a 0)), (1, .int x1), (2, .int x2)]) hx hb dX6_share_26 rfl hl (by decide) rfl (fun ls hl => ?_)
  refine lv_iload_n hx hb dX6_share_27 rfl (lv_at hl 0 rfl) ?_
  refine lv_if_eq (tgt := 49) hx hb dX6_share_28 (by decide) (fun c1 => ?_) (fun c1 => ?_)
  · have h := if_t c1 h
    refine lv_iconst (v := (0 : Int32)) hx hb dX6_share_49 (by decide) ?_
    exact LX6_share_50 B C x1 x2 y0 (0 : Int32) u _ _ _ V (lv_sub hl [1, 2, 3, 0] rfl) h
  · have h := if_f c1 h
    refine lv_aload_n hx hb dX6_share_31 rfl (lv_at hl 1 rfl) ?_
    refine va_get (C := RX6) (T := TX6) (N := 24) (ci := 5) hx hb hts igX6 hown C.1 V.1 0 rfl rfl 11 (by decide) (hts _ kt_614) (fun _ h => h) rfl dX6_share_32 ?_
    refine lv_iload_n hx hb dX6_share_35 rfl (lv_at hl 2 rfl) ?_
    refine lv_iload_n hx hb dX6_share_36 rfl (lv_at hl 3 rfl) ?_
    refine lv_icmp_le (tgt := 44) hx hb dX6_share_37 (by decide) (fun c2 => ?_) (fun c2 => ?_)
    · have h := if_t c2 h
      refine lv_iload_n hx hb dX6_share_44 rfl (lv_at hl 3 rfl) ?_
      obtain ⟨i3, h⟩ := ck_e h
      refine va_iald hx hb C.1 V.1 9 0 rfl rfl i3 dX6_share_45 ?_
      refine lv_goto (tgt := 50) hx hb dX6_share_46 (by decide) ?_
      exact LX6_share_50 B C x1 x2 y0 (u.2 8 x2.toNatClampNeg) u _ _ _ V (lv_sub hl [1, 2, 3, 0] rfl) h
    · have h := if_f c2 h
      refine lv_iload_n hx hb dX6_share_40 rfl (lv_at hl 2 rfl) ?_
      refine lv_goto (tgt := 45) hx hb dX6_share_41 (by decide) ?_
      obtain ⟨i4, h⟩ := ck_e h
      refine va_iald hx hb C.1 V.1 9 0 rfl rfl i4 dX6_share_45 ?_
      refine lv_goto (tgt := 50) hx hb dX6_share_46 (by decide) ?_
      exact LX6_share_50 B C x1 x2 y0 (u.2 8 x1.toNatClampNeg) u _ _ _ V (lv_sub hl [1, 2, 3, 0] rfl) h
set_option maxHeartbeats 4000000 in
theorem mX6_share {l : Launch} {D : va_G} {a : Nat → Nat} {cA : ClassId} {sz : Nat} {u : g_S} {p1 : Int32} {p2 : Int32} {rv : Int32 × g_S} (h : fm_share u p1 p2 = some rv) : gw_Mi D vwCl [(cA, .int)] (mdA a) gY (mdW a cA) l yX6_share wxX6_share rmX6_share sz u [.ref (a 0), .int p1, .int p2] rv.1 rv.2 := by
  refine gw_Mof (Qc := fun z => va_Qi (gw_Pi rv.1 rv.2) (gw_W D vwCl (mdW a cA)) (rg (mdA a) z)) (cc := cX6_share) (maxL := 6) (ret := (some .int)) (by decide) rfl ?_
  intro p e s m below meth c B C V
  obtain ⟨hx, hb, hml, hown, hts, hr, hlk⟩ := id B
  have hl := lv_entry ([.ref (a 0), .int p1, .int p2]) (n := 6) (Nat.le_of_ble_eq_true rfl)
  rw [lg_entry_eq]
  generalize (lg_sl ([.ref (a 0), .int p1, .int p2]) ++ List.replicate (6 - (lg_sl ([.ref (a 0), .int p1, .int p2])).length) Slot.unset).toArray = ls at hl ⊢
  have hl : lv_has ls 6 [(0, .ref (a 0)), (1, .int p1), (2, .int p2)] := hl
  unfold fm_share at h
  refine lv_aload_n hx hb dX6_share_0 rfl (lv_at hl 0 rfl) ?_
  refine lv_iload_n hx hb dX6_share_1 rfl (lv_at hl 1 rfl) ?_
  obtain ⟨v1, hv1, h⟩ := bi_e h
  refine gw_ki V (va_runV (As := [.int p1]) (rest := []) ⟨hx, hb, hml, hown, hts⟩ (mX6_isCall (D := D) (a := a) (cA := cA) (u := u) hv1) (cwV 1 hts gmdX6_167 rfl rfl rfl (by decide +kernel) ⟨Nat.le_of_ble_eq_true rfl, Nat.le_of_ble_eq_true rfl⟩) (gw_preV (q0 := 0) (ci := 5) gY_ok C V [.int p1] rfl rfl) rfl rfl hl.1 rfl (lv_room (Nat.le_of_ble_eq_true rfl)) dX6_share_2 ⟨Nat.zero_le _, Nat.zero_le _⟩) (fun H locs V => ?_)
  refine lv_if_eq (tgt := 25) hx hb dX6_share_5 (by decide) (fun c2 => ?_) (fun c2 => ?_)
  · have h := if_t c2 h
    refine lv_iconst (v := (0 : Int32)) hx hb dX6_share_25 (by decide) ?_
    exact LX6_share_26 B C p1 p2 (0 : Int32) u _ _ _ V (lv_sub hl [0, 1, 2] rfl) h
  · have h := if_f c2 h
    refine lv_aload_n hx hb dX6_share_8 rfl (lv_at hl 0 rfl) ?_
    refine lv_iload_n hx hb dX6_share_9 rfl (lv_at hl 2 rfl) ?_
    obtain ⟨v3, hv3, h⟩ := bi_e h
    refine gw_ki V (va_runV (As := [.int p2]) (rest := []) ⟨hx, hb, hml, hown, hts⟩ (mX6_isCall (D := D) (a := a) (cA := cA) (u := u) hv3) (cwV 1 hts gmdX6_167 rfl rfl rfl (by decide +kernel) ⟨Nat.le_of_ble_eq_true rfl, Nat.le_of_ble_eq_true rfl⟩) (gw_preV (q0 := 0) (ci := 5) gY_ok C V [.int p2] rfl rfl) rfl rfl hl.1 rfl (lv_room (Nat.le_of_ble_eq_true rfl)) dX6_share_10 ⟨Nat.zero_le _, Nat.zero_le _⟩) (fun H locs V => ?_)
    refine lv_if_eq (tgt := 25) hx hb dX6_share_13 (by decide) (fun c4 => ?_) (fun c4 => ?_)
    · have h := if_t c4 h
      refine lv_iconst (v := (0 : Int32)) hx hb dX6_share_25 (by decide) ?_
      exact LX6_share_26 B C p1 p2 (0 : Int32) u _ _ _ V (lv_sub hl [0, 1, 2] rfl) h
    · have h := if_f c4 h
      refine lv_iload_n hx hb dX6_share_16 rfl (lv_at hl 1 rfl) ?_
      refine lv_iload_n hx hb dX6_share_17 rfl (lv_at hl 2 rfl) ?_
      refine lv_icmp_eq (tgt := 25) hx hb dX6_share_18 (by decide) (fun c5 => ?_) (fun c5 => ?_)
      · have h := if_t c5 h
        refine lv_iconst (v := (0 : Int32)) hx hb dX6_share_25 (by decide) ?_
        exact LX6_share_26 B C p1 p2 (0 : Int32) u _ _ _ V (lv_sub hl [0, 1, 2] rfl) h
      · have h := if_f c5 h
        refine lv_iconst (v := (1 : Int32)) hx hb dX6_share_21 (by decide) ?_
        refine lv_goto (tgt := 26) hx hb dX6_share_22 (by decide) ?_
        exact LX6_share_26 B C p1 p2 (1 : Int32) u _ _ _ V (lv_sub hl [0, 1, 2] rfl) h
set_option maxHeartbeats 4000000 in
theorem LX6_agree_57 {p : Program} {l : Launch} {e : Env} {s : State} {m : MethodId} {below : List Frame} {meth : Method} {c : Code} {args : Array Value} {D : va_G} {a : Nat → Nat} {cA : ClassId} (B : gw_B p s m args meth c cX6_agree 6 (some .int) RX6 gT) (C : gw_C D vwCl [(cA, .int)] (mdA a) gY s) {rv : Int32 × g_S} : ∀ (x1 : Int32) (x2 : Int32) (y0 : Int32) (u : g_S) (H : Heap) (locs : List Loc) (ls : Array Slot), gw_V D vwCl (mdA a) (mdW a cA) s u H locs → lv_has ls 6 [(0, .ref (a 0)), (1, .int x1), (2, .int x2)] → fm_agree_57 u x1 x2 y0 = some rv → W p l e rmX6_agree s m args below meth c H locs 0 0 (gw_Ei D vwCl (mdA a) (mdW a cA) below args s rv.1 rv.2) (F0 m 57 ls [.int y0]) := by
  obtain ⟨hx, hb, hml, hown, hts, hr, hlk⟩ := id B
  intro x1 x2 y0 u H locs ls V hl h
  unfold fm_agree_57 at h
  refine lv_istore (lv' := [(4, .int y0), (0, .ref (a 0)), (1, .int x1), (2, .int x2)]) hx hb dX6_agree_57 hl (by decide) rfl (fun ls hl => ?_)
  refine lv_iload_n hx hb dX6_agree_59 rfl (lv_at hl 2 rfl) ?_
  refine lv_iload_n hx hb dX6_agree_60 rfl (lv_at hl 3 rfl) ?_
  refine lv_iadd hx hb dX6_agree_61 ?_
  refine lv_iload hx hb dX6_agree_62 (lv_at hl 0 rfl) ?_
  refine lv_isub hx hb dX6_agree_64 ?_
  obtain ⟨w1, ew1, h⟩ := gl_e h
  refine gw_nmi ew1 ?_
  refine lv_istore (lv' := [(5, .int w1), (4, .int y0), (0, .ref (a 0)), (1, .int x1), (2, .int x2)]) hx hb dX6_agree_65 hl (by decide) rfl (fun ls hl => ?_)
  refine lv_aload_n hx hb dX6_agree_67 rfl (lv_at hl 2 rfl) ?_
  refine lv_iload hx hb dX6_agree_68 (lv_at hl 1 rfl) ?_
  refine lv_aload_n hx hb dX6_agree_70 rfl (lv_at hl 2 rfl) ?_
  refine va_get (C := RX6) (T := TX6) (N := 24) (ci := 5) hx hb hts igX6 hown C.1 V.1 0 rfl rfl 11 (by decide) (hts _ kt_614) (fun _ h => h) rfl dX6_agree_71 ?_
  refine lv_iload hx hb dX6_agree_74 (lv_at hl 0 rfl) ?_
  obtain ⟨i2, h⟩ := ck_e h
  refine va_iald hx hb C.1 V.1 9 0 rfl rfl i2 dX6_agree_76 ?_
  refine lv_aload_n hx hb dX6_agree_77 rfl (lv_at hl 2 rfl) ?_
  refine va_get (C := RX6) (T := TX6) (N := 24) (ci := 5) hx hb hts igX6 hown C.1 V.1 0 rfl rfl 12 (by decide) (hts _ kt_615) (fun _ h => h) rfl dX6_agree_78 ?_
  refine lv_iload hx hb dX6_agree_81 (lv_at hl 0 rfl) ?_
  obtain ⟨i3, h⟩ := ck_e h
  refine va_iald hx hb C.1 V.1 10 0 rfl rfl i3 dX6_agree_83 ?_
  refine lv_aload_n hx hb dX6_agree_84 rfl (lv_at hl 2 rfl) ?_
  refine va_get (C := RX6) (T := TX6) (N := 24) (ci := 5) hx hb hts igX6 hown C.1 V.1 0 rfl rfl 13 (by decide) (hts _ kt_616) (fun _ h => h) rfl dX6_agree_85 ?_
  refine lv_iload hx hb dX6_agree_88 (lv_at hl 0 rfl) ?_
  obtain ⟨i4, h⟩ := ck_e h
  refine va_iald hx hb C.1 V.1 11 0 rfl rfl i4 dX6_agree_90 ?_
  refine lv_aload_n hx hb dX6_agree_91 rfl (lv_at hl 2 rfl) ?_
  refine va_get (C := RX6) (T := TX6) (N := 24) (ci := 5) hx hb hts igX6 hown C.1 V.1 0 rfl rfl 14 (by decide) (hts _ kt_617) (fun _ h => h) rfl dX6_agree_92 ?_
  refine lv_iload hx hb dX6_agree_95 (lv_at hl 0 rfl) ?_
  obtain ⟨i5, h⟩ := ck_e h
  refine va_iald hx hb C.1 V.1 12 0 rfl rfl i5 dX6_agree_97 ?_
  obtain ⟨v6, hv6, h⟩ := bi_e h
  refine gw_ki V (va_runV (As := [.int y0, .int (u.2 8 w1.toNatClampNeg), .int (u.2 9 w1.toNatClampNeg), .int (u.2 10 w1.toNatClampNeg), .int (u.2 11 w1.toNatClampNeg)]) (rest := []) ⟨hx, hb, hml, hown, hts⟩ (mX6_meets (D := D) (a := a) (cA := cA) (u := u) hv6) (cwV 5 hts gmdX6_131 rfl rfl rfl (by decide +kernel) ⟨Nat.le_of_ble_eq_true rfl, Nat.le_of_ble_eq_true rfl⟩) (gw_preV (q0 := 0) (ci := 5) gY_ok C V [.int y0, .int (u.2 8 w1.toNatClampNeg), .int (u.2 9 w1.toNatClampNeg), .int (u.2 10 w1.toNatClampNeg), .int (u.2 11 w1.toNatClampNeg)] rfl rfl) rfl rfl hl.1 rfl (lv_room (Nat.le_of_ble_eq_true rfl)) dX6_agree_98 ⟨Nat.zero_le _, Nat.zero_le _⟩) (fun H locs V => ?_)
  exact gw_reti hx hb hr rfl hlk V (in2a h) (in2b h) dX6_agree_101
set_option maxHeartbeats 4000000 in
theorem LX6_agree_37 {p : Program} {l : Launch} {e : Env} {s : State} {m : MethodId} {below : List Frame} {meth : Method} {c : Code} {args : Array Value} {D : va_G} {a : Nat → Nat} {cA : ClassId} (B : gw_B p s m args meth c cX6_agree 6 (some .int) RX6 gT) (C : gw_C D vwCl [(cA, .int)] (mdA a) gY s) {rv : Int32 × g_S} : ∀ (x1 : Int32) (x2 : Int32) (y1 : Int32) (u : g_S) (H : Heap) (locs : List Loc) (ls : Array Slot), gw_V D vwCl (mdA a) (mdW a cA) s u H locs → lv_has ls 6 [(0, .ref (a 0)), (1, .int x1), (2, .int x2)] → fm_agree_37 u x1 x2 y1 = some rv → W p l e rmX6_agree s m args below meth c H locs 0 0 (gw_Ei D vwCl (mdA a) (mdW a cA) below args s rv.1 rv.2) (F0 m 37 ls [.int y1, .ref (a 0)]) := by
  obtain ⟨hx, hb, hml, hown, hts, hr, hlk⟩ := id B
  intro x1 x2 y1 u H locs ls V hl h
  unfold fm_agree_37 at h
  refine lv_iconst (v := (0 : Int32)) hx hb dX6_agree_37 (by decide) ?_
  refine lv_iconst (v := (0 : Int32)) hx hb dX6_agree_38 (by decide) ?_
  obtain ⟨v1, hv1, h⟩ := bi_e h
  refine gw_ki V (va_runV (As := [.int y1, .int (0 : Int32), .int (0 : Int32)]) (rest := []) ⟨hx, hb, hml, hown, hts⟩ (mX6_throwing (D := D) (a := a) (cA := cA) (u := u) hv1) (cwV 3 hts gmdX6_90 rfl rfl rfl (by decide +kernel) ⟨Nat.le_of_ble_eq_true rfl, Nat.le_of_ble_eq_true rfl⟩) (gw_preV (q0 := 0) (ci := 5) gY_ok C V [.int y1, .int (0 : Int32), .int (0 : Int32)] rfl rfl) rfl rfl hl.1 rfl (lv_room (Nat.le_of_ble_eq_true rfl)) dX6_agree_39 ⟨Nat.zero_le _, Nat.zero_le _⟩) (fun H locs V => ?_)
  refine lv_if_eq (tgt := 47) hx hb dX6_agree_42 (by decide) (fun c2 => ?_) (fun c2 => ?_)
  · have h := if_t c2 h
    refine lv_iload_n hx hb dX6_agree_47 rfl (lv_at hl 1 rfl) ?_
    refine lv_iload_n hx hb dX6_agree_48 rfl (lv_at hl 2 rfl) ?_
    refine lv_icmp_ge (tgt := 56) hx hb dX6_agree_49 (by decide) (fun c3 => ?_) (fun c3 => ?_)
    · have h := if_t c3 h
      refine lv_iload_n hx hb dX6_agree_56 rfl (lv_at hl 2 rfl) ?_
      exact LX6_agree_57 B C x1 x2 x2 v1.2 _ _ _ V (lv_sub hl [0, 1, 2] rfl) h
    · have h := if_f c3 h
      refine lv_iload_n hx hb dX6_agree_52 rfl (lv_at hl 1 rfl) ?_
      refine lv_goto (tgt := 57) hx hb dX6_agree_53 (by decide) ?_
      exact LX6_agree_57 B C x1 x2 x1 v1.2 _ _ _ V (lv_sub hl [0, 1, 2] rfl) h
  · have h := if_f c2 h
    refine lv_iconst (v := (0 : Int32)) hx hb dX6_agree_45 (by decide) ?_
    exact gw_reti hx hb hr rfl hlk V (in2a h) (in2b h) dX6_agree_46
set_option maxHeartbeats 4000000 in
theorem LX6_agree_26 {p : Program} {l : Launch} {e : Env} {s : State} {m : MethodId} {below : List Frame} {meth : Method} {c : Code} {args : Array Value} {D : va_G} {a : Nat → Nat} {cA : ClassId} (B : gw_B p s m args meth c cX6_agree 6 (some .int) RX6 gT) (C : gw_C D vwCl [(cA, .int)] (mdA a) gY s) {rv : Int32 × g_S} : ∀ (x1 : Int32) (x2 : Int32) (y0 : Int32) (u : g_S) (H : Heap) (locs : List Loc) (ls : Array Slot), gw_V D vwCl (mdA a) (mdW a cA) s u H locs → lv_has ls 6 [(0, .ref (a 0)), (1, .int x1), (2, .int x2)] → fm_agree_26 u x1 x2 y0 = some rv → W p l e rmX6_agree s m args below meth c H locs 0 0 (gw_Ei D vwCl (mdA a) (mdW a cA) below args s rv.1 rv.2) (F0 m 26 ls [.int y0]) := by
  obtain ⟨hx, hb, hml, hown, hts, hr, hlk⟩ := id B
  intro x1 x2 y0 u H locs ls V hl h
  unfold fm_agree_26 at h
  refine lv_istore_n (lv' := [(3, .int y0), (0, .ref (a 0)), (1, .int x1), (2, .int x2)]) hx hb dX6_agree_26 rfl hl (by decide) rfl (fun ls hl => ?_)
  refine lv_aload_n hx hb dX6_agree_27 rfl (lv_at hl 1 rfl) ?_
  refine lv_iload_n hx hb dX6_agree_28 rfl (lv_at hl 0 rfl) ?_
  refine lv_if_ne (tgt := 36) hx hb dX6_agree_29 (by decide) (fun c1 => ?_) (fun c1 => ?_)
  · have h := if_t c1 h
    refine lv_iconst (v := (0 : Int32)) hx hb dX6_agree_36 (by decide) ?_
    exact LX6_agree_37 B C x1 x2 (0 : Int32) u _ _ _ V (lv_sub hl [1, 2, 3] rfl) h
  · have h := if_nn c1 h
    refine lv_iconst (v := (1 : Int32)) hx hb dX6_agree_32 (by decide) ?_
    refine lv_goto (tgt := 37) hx hb dX6_agree_33 (by decide) ?_
    exact LX6_agree_37 B C x1 x2 (1 : Int32) u _ _ _ V (lv_sub hl [1, 2, 3] rfl) h
set_option maxHeartbeats 4000000 in
theorem mX6_agree {l : Launch} {D : va_G} {a : Nat → Nat} {cA : ClassId} {sz : Nat} {u : g_S} {p1 : Int32} {p2 : Int32} {rv : Int32 × g_S} (h : fm_agree u p1 p2 = some rv) : gw_Mi D vwCl [(cA, .int)] (mdA a) gY (mdW a cA) l yX6_agree wxX6_agree rmX6_agree sz u [.ref (a 0), .int p1, .int p2] rv.1 rv.2 := by
  refine gw_Mof (Qc := fun z => va_Qi (gw_Pi rv.1 rv.2) (gw_W D vwCl (mdW a cA)) (rg (mdA a) z)) (cc := cX6_agree) (maxL := 6) (ret := (some .int)) (by decide) rfl ?_
  intro p e s m below meth c B C V
  obtain ⟨hx, hb, hml, hown, hts, hr, hlk⟩ := id B
  have hl := lv_entry ([.ref (a 0), .int p1, .int p2]) (n := 6) (Nat.le_of_ble_eq_true rfl)
  rw [lg_entry_eq]
  generalize (lg_sl ([.ref (a 0), .int p1, .int p2]) ++ List.replicate (6 - (lg_sl ([.ref (a 0), .int p1, .int p2])).length) Slot.unset).toArray = ls at hl ⊢
  have hl : lv_has ls 6 [(0, .ref (a 0)), (1, .int p1), (2, .int p2)] := hl
  unfold fm_agree at h
  refine lv_aload_n hx hb dX6_agree_0 rfl (lv_at hl 0 rfl) ?_
  refine lv_iload_n hx hb dX6_agree_1 rfl (lv_at hl 1 rfl) ?_
  obtain ⟨v1, hv1, h⟩ := bi_e h
  refine gw_ki V (va_runV (As := [.int p1]) (rest := []) ⟨hx, hb, hml, hown, hts⟩ (mX6_isCall (D := D) (a := a) (cA := cA) (u := u) hv1) (cwV 1 hts gmdX6_167 rfl rfl rfl (by decide +kernel) ⟨Nat.le_of_ble_eq_true rfl, Nat.le_of_ble_eq_true rfl⟩) (gw_preV (q0 := 0) (ci := 5) gY_ok C V [.int p1] rfl rfl) rfl rfl hl.1 rfl (lv_room (Nat.le_of_ble_eq_true rfl)) dX6_agree_2 ⟨Nat.zero_le _, Nat.zero_le _⟩) (fun H locs V => ?_)
  refine lv_if_eq (tgt := 25) hx hb dX6_agree_5 (by decide) (fun c2 => ?_) (fun c2 => ?_)
  · have h := if_t c2 h
    refine lv_iconst (v := (0 : Int32)) hx hb dX6_agree_25 (by decide) ?_
    exact LX6_agree_26 B C p1 p2 (0 : Int32) u _ _ _ V (lv_sub hl [0, 1, 2] rfl) h
  · have h := if_f c2 h
    refine lv_aload_n hx hb dX6_agree_8 rfl (lv_at hl 0 rfl) ?_
    refine lv_iload_n hx hb dX6_agree_9 rfl (lv_at hl 2 rfl) ?_
    obtain ⟨v3, hv3, h⟩ := bi_e h
    refine gw_ki V (va_runV (As := [.int p2]) (rest := []) ⟨hx, hb, hml, hown, hts⟩ (mX6_isCall (D := D) (a := a) (cA := cA) (u := u) hv3) (cwV 1 hts gmdX6_167 rfl rfl rfl (by decide +kernel) ⟨Nat.le_of_ble_eq_true rfl, Nat.le_of_ble_eq_true rfl⟩) (gw_preV (q0 := 0) (ci := 5) gY_ok C V [.int p2] rfl rfl) rfl rfl hl.1 rfl (lv_room (Nat.le_of_ble_eq_true rfl)) dX6_agree_10 ⟨Nat.zero_le _, Nat.zero_le _⟩) (fun H locs V => ?_)
    refine lv_if_eq (tgt := 25) hx hb dX6_agree_13 (by decide) (fun c4 => ?_) (fun c4 => ?_)
    · have h := if_t c4 h
      refine lv_iconst (v := (0 : Int32)) hx hb dX6_agree_25 (by decide) ?_
      exact LX6_agree_26 B C p1 p2 (0 : Int32) u _ _ _ V (lv_sub hl [0, 1, 2] rfl) h
    · have h := if_f c4 h
      refine lv_iload_n hx hb dX6_agree_16 rfl (lv_at hl 1 rfl) ?_
      refine lv_iload_n hx hb dX6_agree_17 rfl (lv_at hl 2 rfl) ?_
      refine lv_icmp_eq (tgt := 25) hx hb dX6_agree_18 (by decide) (fun c5 => ?_) (fun c5 => ?_)
      · have h := if_t c5 h
        refine lv_iconst (v := (0 : Int32)) hx hb dX6_agree_25 (by decide) ?_
        exact LX6_agree_26 B C p1 p2 (0 : Int32) u _ _ _ V (lv_sub hl [0, 1, 2] rfl) h
      · have h := if_f c5 h
        refine lv_iconst (v := (1 : Int32)) hx hb dX6_agree_21 (by decide) ?_
        refine lv_goto (tgt := 26) hx hb dX6_agree_22 (by decide) ?_
        exact LX6_agree_26 B C p1 p2 (1 : Int32) u _ _ _ V (lv_sub hl [0, 1, 2] rfl) h
