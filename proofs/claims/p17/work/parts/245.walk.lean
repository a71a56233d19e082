set_option maxHeartbeats 4000000 in
theorem LX0_weighCall_16 {p : Program} {l : Launch} {e : Env} {s : State} {m : MethodId} {below : List Frame} {meth : Method} {c : Code} {args : Array Value} {D : va_G} {a : Nat → Nat} {cA : ClassId} (B : gw_B p s m args meth c cX0_weighCall 3 (some .int) RX0 gT) (C : gw_C D vwCl [(cA, .int)] (cjA a) gX s) {rv : Int32} {u : g_S} : ∀ (x1 : Int32) (x2 : Int32) (H : Heap) (locs : List Loc) (ls : Array Slot), gw_V D vwCl (cjA a) (cjW a cA) s u H locs → lv_has ls 3 [(0, .ref (a 3)), (1, .int x1), (2, .int x2)] → fcA_weighCall_16 u x1 x2 = some rv → W p l e rmX0_weighCall s m args below meth c H locs 0 0 (gw_Ei D vwCl (cjA a) (cjW a cA) below args s rv u) (F0 m 16 ls []) := by
  obtain ⟨hx, hb, hml, hown, hts, hr, hlk⟩ := id B
  intro x1 x2 H locs ls V hl h
  unfold fcA_weighCall_16 at h
  refine lv_aload_n hx hb dX0_weighCall_16 rfl (lv_at hl 0 rfl) ?_
  refine va_get (C := RX0) (T := TX0) (N := 11) (ci := 0) hx hb hts igX0 hown C.1 V.1 3 rfl rfl 3 (by decide) (hts _ kt_82) (fun _ h => h) rfl dX0_weighCall_17 ?_
  refine lv_iload_n hx hb dX0_weighCall_20 rfl (lv_at hl 1 rfl) ?_
  obtain ⟨i1, h⟩ := ck_e h
  refine va_iald hx hb C.1 V.1 14 0 rfl rfl i1 dX0_weighCall_21 ?_
  refine lv_iconst (v := (-1 : Int32)) hx hb dX0_weighCall_22 (by decide) ?_
  refine lv_icmp_eq (tgt := 29) hx hb dX0_weighCall_23 (by decide) (fun c2 => ?_) (fun c2 => ?_)
  · have h := if_t c2 h
    refine lv_iload_n hx hb dX0_weighCall_29 rfl (lv_at hl 2 rfl) ?_
    exact gw_reti hx hb hr rfl hlk V (Option.some.inj h) rfl dX0_weighCall_30
  · have h := if_f c2 h
    refine lv_iinc (v := (x2 + (1 : Int32))) (lv' := [(2, .int (x2 + (1 : Int32))), (0, .ref (a 3)), (1, .int x1)]) hx hb dX0_weighCall_26 hl (k := 2) rfl rfl (by decide) rfl (fun ls hl => ?_)
    refine lv_iload_n hx hb dX0_weighCall_29 rfl (lv_at hl 0 rfl) ?_
    exact gw_reti hx hb hr rfl hlk V (Option.some.inj h) rfl dX0_weighCall_30
set_option maxHeartbeats 4000000 in
theorem mX0_weighCall {l : Launch} {D : va_G} {a : Nat → Nat} {cA : ClassId} {sz : Nat} {u : g_S} {p1 : Int32} {rv : Int32} (h : fcA_weighCall u p1 = some rv) : gw_Mi D vwCl [(cA, .int)] (cjA a) gX (cjW a cA) l yX0_weighCall wxX0_weighCall rmX0_weighCall sz u [.ref (a 3), .int p1] rv u := by
  refine gw_Mof (Qc := fun z => va_Qi (gw_Pi rv u) (gw_W D vwCl (cjW a cA)) (rg (cjA a) z)) (cc := cX0_weighCall) (maxL := 3) (ret := (some .int)) (by decide) rfl ?_
  intro p e s m below meth c B C V
  obtain ⟨hx, hb, hml, hown, hts, hr, hlk⟩ := id B
  have hl := lv_entry ([.ref (a 3), .int p1]) (n := 3) (Nat.le_of_ble_eq_true rfl)
  rw [lg_entry_eq]
  generalize (lg_sl ([.ref (a 3), .int p1]) ++ List.replicate (3 - (lg_sl ([.ref (a 3), .int p1])).length) Slot.unset).toArray = ls at hl ⊢
  have hl : lv_has ls 3 [(0, .ref (a 3)), (1, .int p1)] := hl
  unfold fcA_weighCall at h
  refine lv_iconst (v := (4 : Int32)) hx hb dX0_weighCall_0 (by decide) ?_
  refine lv_istore_n (lv' := [(2, .int (4 : Int32)), (0, .ref (a 3)), (1, .int p1)]) hx hb dX0_weighCall_1 rfl hl (by decide) rfl (fun ls hl => ?_)
  refine lv_aload_n hx hb dX0_weighCall_2 rfl (lv_at hl 1 rfl) ?_
  refine va_get (C := RX0) (T := TX0) (N := 11) (ci := 0) hx hb hts igX0 hown C.1 V.1 3 rfl rfl 10 (by decide) (hts _ kt_96) (fun _ h => h) rfl dX0_weighCall_3 ?_
  refine lv_iload_n hx hb dX0_weighCall_6 rfl (lv_at hl 2 rfl) ?_
  obtain ⟨i1, h⟩ := ck_e h
  refine va_iald hx hb C.1 V.1 21 0 rfl rfl i1 dX0_weighCall_7 ?_
  refine lv_iconst (v := (1 : Int32)) hx hb dX0_weighCall_8 (by decide) ?_
  refine lv_iand hx hb dX0_weighCall_9 ?_
  refine lv_if_eq (tgt := 16) hx hb dX0_weighCall_10 (by decide) (fun c2 => ?_) (fun c2 => ?_)
  · have h := if_t c2 h
    exact LX0_weighCall_16 B C p1 (4 : Int32) _ _ _ V (lv_sub hl [1, 2, 0] rfl) h
  · have h := if_f c2 h
    refine lv_iinc (v := ((4 : Int32) + (-2 : Int32))) (lv' := [(2, .int ((4 : Int32) + (-2 : Int32))), (0, .ref (a 3)), (1, .int p1)]) hx hb dX0_weighCall_13 hl (k := 0) rfl rfl (by decide) rfl (fun ls hl => ?_)
    exact LX0_weighCall_16 B C p1 ((4 : Int32) + (-2 : Int32)) _ _ _ V (lv_sub hl [1, 2, 0] rfl) h
set_option maxHeartbeats 4000000 in
theorem LX0_weighEvent_4 {p : Program} {l : Launch} {e : Env} {s : State} {m : MethodId} {below : List Frame} {meth : Method} {c : Code} {args : Array Value} {D : va_G} {a : Nat → Nat} {cA : ClassId} (B : gw_B p s m args meth c cX0_weighEvent 4 (some .int) RX0 gT) (C : gw_C D vwCl [(cA, .int)] (cjA a) gX s) {rv : Int32} {u : g_S} : ∀ (n : Nat) (x1 : Int32) (x2 : Int32) (x3 : Int32) (H : Heap) (locs : List Loc) (ls : Array Slot), gw_V D vwCl (cjA a) (cjW a cA) s u H locs → lv_has ls 4 [(0, .ref (a 3)), (1, .int x1), (2, .int x2), (3, .int x3)] → fcA_weighEvent_4 u n x1 x2 x3 = some rv → W p l e rmX0_weighEvent s m args below meth c H locs 0 0 (gw_Ei D vwCl (cjA a) (cjW a cA) below args s rv u) (F0 m 4 ls []) := by
  obtain ⟨hx, hb, hml, hown, hts, hr, hlk⟩ := id B
  intro n
  induction n with
  | zero =>
    intro x1 x2 x3 H locs ls V hl h
    cases h
  | succ n ih =>
    intro x1 x2 x3 H locs ls V hl h
    rw [fcA_weighEvent_4_s] at h
    refine lv_iload_n hx hb dX0_weighEvent_4 rfl (lv_at hl 3 rfl) ?_
    refine lv_aload_n hx hb dX0_weighEvent_5 rfl (lv_at hl 0 rfl) ?_
    refine va_get (C := RX0) (T := TX0) (N := 11) (ci := 0) hx hb hts igX0 hown C.1 V.1 3 rfl rfl 0 (by decide) (hts _ kt_76) (fun _ h => h) rfl dX0_weighEvent_6 ?_
    refine lv_icmp_ge (tgt := 44) hx hb dX0_weighEvent_9 (by decide) (fun c1 => ?_) (fun c1 => ?_)
    · have h := if_t c1 h
      refine lv_iload_n hx hb dX0_weighEvent_44 rfl (lv_at hl 2 rfl) ?_
      exact gw_reti hx hb hr rfl hlk V (Option.some.inj h) rfl dX0_weighEvent_45
    · have h := if_f c1 h
      refine lv_aload_n hx hb dX0_weighEvent_12 rfl (lv_at hl 0 rfl) ?_
      refine va_get (C := RX0) (T := TX0) (N := 11) (ci := 0) hx hb hts igX0 hown C.1 V.1 3 rfl rfl 7 (by decide) (hts _ kt_90) (fun _ h => h) rfl dX0_weighEvent_13 ?_
      refine lv_iload_n hx hb dX0_weighEvent_16 rfl (lv_at hl 3 rfl) ?_
      obtain ⟨i2, h⟩ := ck_e h
      refine va_iald hx hb C.1 V.1 18 0 rfl rfl i2 dX0_weighEvent_17 ?_
      refine lv_iload_n hx hb dX0_weighEvent_18 rfl (lv_at hl 1 rfl) ?_
      refine lv_icmp_ne (tgt := 38) hx hb dX0_weighEvent_19 (by decide) (fun c3 => ?_) (fun c3 => ?_)
      · have h := if_t c3 h
        refine lv_iinc (v := (x3 + (1 : Int32))) (lv' := [(3, .int (x3 + (1 : Int32))), (0, .ref (a 3)), (1, .int x1), (2, .int x2)]) hx hb dX0_weighEvent_38 hl (k := 3) rfl rfl (by decide) rfl (fun ls hl => ?_)
        refine lv_goto (tgt := 4) hx hb dX0_weighEvent_41 (by decide) ?_
        exact ih x1 x2 (x3 + (1 : Int32)) _ _ _ V (lv_sub hl [1, 2, 3, 0] rfl) h
      · have h := if_nn c3 h
        refine lv_aload_n hx hb dX0_weighEvent_22 rfl (lv_at hl 0 rfl) ?_
        refine lv_iload_n hx hb dX0_weighEvent_23 rfl (lv_at hl 3 rfl) ?_
        obtain ⟨v4, hv4, h⟩ := bi_e h
        refine gw_ki V (va_runV (As := [.int x3]) (rest := []) ⟨hx, hb, hml, hown, hts⟩ (mX0_isHoax (D := D) (a := a) (cA := cA) (u := u) hv4) (cwV 1 hts gcjX0_50 rfl rfl rfl (by decide +kernel) ⟨Nat.le_of_ble_eq_true rfl, Nat.le_of_ble_eq_true rfl⟩) (gw_preV (q0 := 3) (ci := 0) gX_ok C V [.int x3] rfl rfl) rfl rfl hl.1 rfl (lv_room (Nat.le_of_ble_eq_true rfl)) dX0_weighEvent_24 ⟨Nat.zero_le _, Nat.zero_le _⟩) (fun H locs V => ?_)
        refine lv_if_ne (tgt := 38) hx hb dX0_weighEvent_27 (by decide) (fun c5 => ?_) (fun c5 => ?_)
        · have h := if_t c5 h
          refine lv_iinc (v := (x3 + (1 : Int32))) (lv' := [(3, .int (x3 + (1 : Int32))), (0, .ref (a 3)), (1, .int x1), (2, .int x2)]) hx hb dX0_weighEvent_38 hl (k := 3) rfl rfl (by decide) rfl (fun ls hl => ?_)
          refine lv_goto (tgt := 4) hx hb dX0_weighEvent_41 (by decide) ?_
          exact ih x1 x2 (x3 + (1 : Int32)) _ _ _ V (lv_sub hl [1, 2, 3, 0] rfl) h
        · have h := if_nn c5 h
          refine lv_iload_n hx hb dX0_weighEvent_30 rfl (lv_at hl 2 rfl) ?_
          refine lv_aload_n hx hb dX0_weighEvent_31 rfl (lv_at hl 0 rfl) ?_
          refine lv_iload_n hx hb dX0_weighEvent_32 rfl (lv_at hl 3 rfl) ?_
          obtain ⟨v6, hv6, h⟩ := bi_e h
          refine gw_ki V (va_runV (As := [.int x3]) (rest := [.int x2]) ⟨hx, hb, hml, hown, hts⟩ (mX0_weighCall (D := D) (a := a) (cA := cA) (u := u) hv6) (cwV 1 hts gcjX0_54 rfl rfl rfl (by decide +kernel) ⟨Nat.le_of_ble_eq_true rfl, Nat.le_of_ble_eq_true rfl⟩) (gw_preV (q0 := 3) (ci := 0) gX_ok C V [.int x3] rfl rfl) rfl rfl hl.1 rfl (lv_room (Nat.le_of_ble_eq_true rfl)) dX0_weighEvent_33 ⟨Nat.zero_le _, Nat.zero_le _⟩) (fun H locs V => ?_)
          refine lv_iadd hx hb dX0_weighEvent_36 ?_
          obtain ⟨w7, ew7, h⟩ := gl_e h
          refine gw_nmi ew7 ?_
          refine lv_istore_n (lv' := [(2, .int w7), (0, .ref (a 3)), (1, .int x1), (3, .int x3)]) hx hb dX0_weighEvent_37 rfl hl (by decide) rfl (fun ls hl => ?_)
          refine lv_iinc (v := (x3 + (1 : Int32))) (lv' := [(3, .int (x3 + (1 : Int32))), (2, .int w7), (0, .ref (a 3)), (1, .int x1)]) hx hb dX0_weighEvent_38 hl (k := 3) rfl rfl (by decide) rfl (fun ls hl => ?_)
          refine lv_goto (tgt := 4) hx hb dX0_weighEvent_41 (by decide) ?_
          exact ih x1 w7 (x3 + (1 : Int32)) _ _ _ V (lv_sub hl [2, 3, 1, 0] rfl) h
set_option maxHeartbeats 4000000 in
theorem mX0_weighEvent {l : Launch} {D : va_G} {a : Nat → Nat} {cA : ClassId} {sz : Nat} {u : g_S} {p1 : Int32} {rv : Int32} (h : fcA_weighEvent u p1 = some rv) : gw_Mi D vwCl [(cA, .int)] (cjA a) gX (cjW a cA) l yX0_weighEvent wxX0_weighEvent rmX0_weighEvent sz u [.ref (a 3), .int p1] rv u := by
  refine gw_Mof (Qc := fun z => va_Qi (gw_Pi rv u) (gw_W D vwCl (cjW a cA)) (rg (cjA a) z)) (cc := cX0_weighEvent) (maxL := 4) (ret := (some .int)) (by decide) rfl ?_
  intro p e s m below meth c B C V
  obtain ⟨hx, hb, hml, hown, hts, hr, hlk⟩ := id B
  have hl := lv_entry ([.ref (a 3), .int p1]) (n := 4) (Nat.le_of_ble_eq_true rfl)
  rw [lg_entry_eq]
  generalize (lg_sl ([.ref (a 3), .int p1]) ++ List.replicate (4 - (lg_sl ([.ref (a 3), .int p1])).length) Slot.unset).toArray = ls at hl ⊢
  have hl : lv_has ls 4 [(0, .ref (a 3)), (1, .int p1)] := hl
  unfold fcA_weighEvent at h
  refine lv_iconst (v := (0 : Int32)) hx hb dX0_weighEvent_0 (by decide) ?_
  refine lv_istore_n (lv' := [(2, .int (0 : Int32)), (0, .ref (a 3)), (1, .int p1)]) hx hb dX0_weighEvent_1 rfl hl (by decide) rfl (fun ls hl => ?_)
  refine lv_iconst (v := (0 : Int32)) hx hb dX0_weighEvent_2 (by decide) ?_
  refine lv_istore_n (lv' := [(3, .int (0 : Int32)), (2, .int (0 : Int32)), (0, .ref (a 3)), (1, .int p1)]) hx hb dX0_weighEvent_3 rfl hl (by decide) rfl (fun ls hl => ?_)
  exact LX0_weighEvent_4 B C 200 p1 (0 : Int32) (0 : Int32) _ _ _ V (lv_sub hl [2, 3, 1, 0] rfl) h
set_option maxHeartbeats 4000000 in
theorem LX0_pointOf_2 {p : Program} {l : Launch} {e : Env} {s : State} {m : MethodId} {below : List Frame} {meth : Method} {c : Code} {args : Array Value} {D : va_G} {a : Nat → Nat} {cA : ClassId} (B : gw_B p s m args meth c cX0_pointOf 3 (some .int) RX0 gT) (C : gw_C D vwCl [(cA, .int)] (cjA a) gX s) {rv : Int32} {u : g_S} : ∀ (n : Nat) (x1 : Int32) (x2 : Int32) (H : Heap) (locs : List Loc) (ls : Array Slot), gw_V D vwCl (cjA a) (cjW a cA) s u H locs → lv_has ls 3 [(0, .ref (a 3)), (1, .int x1), (2, .int x2)] → fcA_pointOf_2 u n x1 x2 = some rv → W p l e rmX0_pointOf s m args below meth c H locs 0 0 (gw_Ei D vwCl (cjA a) (cjW a cA) below args s rv u) (F0 m 2 ls []) := by
  obtain ⟨hx, hb, hml, hown, hts, hr, hlk⟩ := id B
  intro n
  induction n with
  | zero =>
    intro x1 x2 H locs ls V hl h
    cases h
  | succ n ih =>
    intro x1 x2 H locs ls V hl h
    rw [fcA_pointOf_2_s] at h
    refine lv_iload_n hx hb dX0_pointOf_2 rfl (lv_at hl 2 rfl) ?_
    refine lv_aload_n hx hb dX0_pointOf_3 rfl (lv_at hl 0 rfl) ?_
    refine va_get (C := RX0) (T := TX0) (N := 11) (ci := 0) hx hb hts igX0 hown C.1 V.1 3 rfl rfl 0 (by decide) (hts _ kt_76) (fun _ h => h) rfl dX0_pointOf_4 ?_
    refine lv_icmp_ge (tgt := 51) hx hb dX0_pointOf_7 (by decide) (fun c1 => ?_) (fun c1 => ?_)
    · have h := if_t c1 h
      refine lv_iconst (v := (-1 : Int32)) hx hb dX0_pointOf_51 (by decide) ?_
      exact gw_reti hx hb hr rfl hlk V (Option.some.inj h) rfl dX0_pointOf_52
    · have h := if_f c1 h
      refine lv_aload_n hx hb dX0_pointOf_10 rfl (lv_at hl 0 rfl) ?_
      refine va_get (C := RX0) (T := TX0) (N := 11) (ci := 0) hx hb hts igX0 hown C.1 V.1 3 rfl rfl 7 (by decide) (hts _ kt_90) (fun _ h => h) rfl dX0_pointOf_11 ?_
      refine lv_iload_n hx hb dX0_pointOf_14 rfl (lv_at hl 2 rfl) ?_
      obtain ⟨i2, h⟩ := ck_e h
      refine va_iald hx hb C.1 V.1 18 0 rfl rfl i2 dX0_pointOf_15 ?_
      refine lv_iload_n hx hb dX0_pointOf_16 rfl (lv_at hl 1 rfl) ?_
      refine lv_icmp_ne (tgt := 45) hx hb dX0_pointOf_17 (by decide) (fun c3 => ?_) (fun c3 => ?_)
      · have h := if_t c3 h
        refine lv_iinc (v := (x2 + (1 : Int32))) (lv' := [(2, .int (x2 + (1 : Int32))), (0, .ref (a 3)), (1, .int x1)]) hx hb dX0_pointOf_45 hl (k := 2) rfl rfl (by decide) rfl (fun ls hl => ?_)
        refine lv_goto (tgt := 2) hx hb dX0_pointOf_48 (by decide) ?_
        exact ih x1 (x2 + (1 : Int32)) _ _ _ V (lv_sub hl [1, 2, 0] rfl) h
      · have h := if_nn c3 h
        refine lv_aload_n hx hb dX0_pointOf_20 rfl (lv_at hl 0 rfl) ?_
        refine lv_iload_n hx hb dX0_pointOf_21 rfl (lv_at hl 2 rfl) ?_
        obtain ⟨v4, hv4, h⟩ := bi_e h
        refine gw_ki V (va_runV (As := [.int x2]) (rest := []) ⟨hx, hb, hml, hown, hts⟩ (mX0_isHoax (D := D) (a := a) (cA := cA) (u := u) hv4) (cwV 1 hts gcjX0_50 rfl rfl rfl (by decide +kernel) ⟨Nat.le_of_ble_eq_true rfl, Nat.le_of_ble_eq_true rfl⟩) (gw_preV (q0 := 3) (ci := 0) gX_ok C V [.int x2] rfl rfl) rfl rfl hl.1 rfl (lv_room (Nat.le_of_ble_eq_true rfl)) dX0_pointOf_22 ⟨Nat.zero_le _, Nat.zero_le _⟩) (fun H locs V => ?_)
        refine lv_if_ne (tgt := 45) hx hb dX0_pointOf_25 (by decide) (fun c5 => ?_) (fun c5 => ?_)
        · have h := if_t c5 h
          refine lv_iinc (v := (x2 + (1 : Int32))) (lv' := [(2, .int (x2 + (1 : Int32))), (0, .ref (a 3)), (1, .int x1)]) hx hb dX0_pointOf_45 hl (k := 2) rfl rfl (by decide) rfl (fun ls hl => ?_)
          refine lv_goto (tgt := 2) hx hb dX0_pointOf_48 (by decide) ?_
          exact ih x1 (x2 + (1 : Int32)) _ _ _ V (lv_sub hl [1, 2, 0] rfl) h
        · have h := if_nn c5 h
          refine lv_aload_n hx hb dX0_pointOf_28 rfl (lv_at hl 0 rfl) ?_
          refine va_get (C := RX0) (T := TX0) (N := 11) (ci := 0) hx hb hts igX0 hown C.1 V.1 3 rfl rfl 3 (by decide) (hts _ kt_82) (fun _ h => h) rfl dX0_pointOf_29 ?_
          refine lv_iload_n hx hb dX0_pointOf_32 rfl (lv_at hl 2 rfl) ?_
          obtain ⟨i6, h⟩ := ck_e h
          refine va_iald hx hb C.1 V.1 14 0 rfl rfl i6 dX0_pointOf_33 ?_
          refine lv_iconst (v := (-1 : Int32)) hx hb dX0_pointOf_34 (by decide) ?_
          refine lv_icmp_eq (tgt := 45) hx hb dX0_pointOf_35 (by decide) (fun c7 => ?_) (fun c7 => ?_)
          · have h := if_t c7 h
            refine lv_iinc (v := (x2 + (1 : Int32))) (lv' := [(2, .int (x2 + (1 : Int32))), (0, .ref (a 3)), (1, .int x1)]) hx hb dX0_pointOf_45 hl (k := 2) rfl rfl (by decide) rfl (fun ls hl => ?_)
            refine lv_goto (tgt := 2) hx hb dX0_pointOf_48 (by decide) ?_
            exact ih x1 (x2 + (1 : Int32)) _ _ _ V (lv_sub hl [1, 2, 0] rfl) h
          · have h := if_f c7 h
            refine lv_aload_n hx hb dX0_pointOf_38 rfl (lv_at hl 0 rfl) ?_
            refine va_get (C := RX0) (T := TX0) (N := 11) (ci := 0) hx hb hts igX0 hown C.1 V.1 3 rfl rfl 3 (by decide) (hts _ kt_82) (fun _ h => h) rfl dX0_pointOf_39 ?_
            refine lv_iload_n hx hb dX0_pointOf_42 rfl (lv_at hl 2 rfl) ?_
            obtain ⟨i8, h⟩ := ck_e h
            refine va_iald hx hb C.1 V.1 14 0 rfl rfl i8 dX0_pointOf_43 ?_
            exact gw_reti hx hb hr rfl hlk V (Option.some.inj h) rfl dX0_pointOf_44
set_option maxHeartbeats 4000000 in
theorem mX0_pointOf {l : Launch} {D : va_G} {a : Nat → Nat} {cA : ClassId} {sz : Nat} {u : g_S} {p1 : Int32} {rv : Int32} (h : fcA_pointOf u p1 = some rv) : gw_Mi D vwCl [(cA, .int)] (cjA a) gX (cjW a cA) l yX0_pointOf wxX0_pointOf rmX0_pointOf sz u [.ref (a 3), .int p1] rv u := by
  refine gw_Mof (Qc := fun z => va_Qi (gw_Pi rv u) (gw_W D vwCl (cjW a cA)) (rg (cjA a) z)) (cc := cX0_pointOf) (maxL := 3) (ret := (some .int)) (by decide) rfl ?_
  intro p e s m below meth c B C V
  obtain ⟨hx, hb, hml, hown, hts, hr, hlk⟩ := id B
  have hl := lv_entry ([.ref (a 3), .int p1]) (n := 3) (Nat.le_of_ble_eq_true rfl)
  rw [lg_entry_eq]
  generalize (lg_sl ([.ref (a 3), .int p1]) ++ List.replicate (3 - (lg_sl ([.ref (a 3), .int p1])).length) Slot.unset).toArray = ls at hl ⊢
  have hl : lv_has ls 3 [(0, .ref (a 3)), (1, .int p1)] := hl
  unfold fcA_pointOf at h
  refine lv_iconst (v := (0 : Int32)) hx hb dX0_pointOf_0 (by decide) ?_
  refine lv_istore_n (lv' := [(2, .int (0 : Int32)), (0, .ref (a 3)), (1, .int p1)]) hx hb dX0_pointOf_1 rfl hl (by decide) rfl (fun ls hl => ?_)
  exact LX0_pointOf_2 B C 200 p1 (0 : Int32) _ _ _ V (lv_sub hl [1, 2, 0] rfl) h
set_option maxHeartbeats 4000000 in
theorem LX0_latestTimeOf_7 {p : Program} {l : Launch} {e : Env} {s : State} {m : MethodId} {below : List Frame} {meth : Method} {c : Code} {args : Array Value} {D : va_G} {a : Nat → Nat} {cA : ClassId} (B : gw_B p s m args meth c cX0_latestTimeOf 3 (some .int) RX0 gT) (C : gw_C D vwCl [(cA, .int)] (cjA a) gX s) {rv : Int32} {u : g_S} : ∀ (n : Nat) (x1 : Int32) (x2 : Int32) (H : Heap) (locs : List Loc) (ls : Array Slot), gw_V D vwCl (cjA a) (cjW a cA) s u H locs → lv_has ls 3 [(0, .ref (a 3)), (1, .int x1), (2, .int x2)] → fcA_latestTimeOf_7 u n x1 x2 = some rv → W p l e rmX0_latestTimeOf s m args below meth c H locs 0 0 (gw_Ei D vwCl (cjA a) (cjW a cA) below args s rv u) (F0 m 7 ls []) := by
  obtain ⟨hx, hb, hml, hown, hts, hr, hlk⟩ := id B
  intro n
  induction n with
  | zero =>
    intro x1 x2 H locs ls V hl h
    cases h
  | succ n ih =>
    intro x1 x2 H locs ls V hl h
    rw [fcA_latestTimeOf_7_s] at h
    refine lv_iload_n hx hb dX0_latestTimeOf_7 rfl (lv_at hl 2 rfl) ?_
    refine lv_if_lt (tgt := 34) hx hb dX0_latestTimeOf_8 (by decide) (fun c1 => ?_) (fun c1 => ?_)
    · have h := if_t c1 h
      refine lv_iconst (v := (-1 : Int32)) hx hb dX0_latestTimeOf_34 (by decide) ?_
      exact gw_reti hx hb hr rfl hlk V (Option.some.inj h) rfl dX0_latestTimeOf_35
    · have h := if_f c1 h
      refine lv_aload_n hx hb dX0_latestTimeOf_11 rfl (lv_at hl 0 rfl) ?_
      refine va_get (C := RX0) (T := TX0) (N := 11) (ci := 0) hx hb hts igX0 hown C.1 V.1 3 rfl rfl 7 (by decide) (hts _ kt_90) (fun _ h => h) rfl dX0_latestTimeOf_12 ?_
      refine lv_iload_n hx hb dX0_latestTimeOf_15 rfl (lv_at hl 2 rfl) ?_
      obtain ⟨i2, h⟩ := ck_e h
      refine va_iald hx hb C.1 V.1 18 0 rfl rfl i2 dX0_latestTimeOf_16 ?_
      refine lv_iload_n hx hb dX0_latestTimeOf_17 rfl (lv_at hl 1 rfl) ?_
      refine lv_icmp_ne (tgt := 28) hx hb dX0_latestTimeOf_18 (by decide) (fun c3 => ?_) (fun c3 => ?_)
      · have h := if_t c3 h
        refine lv_iinc (v := (x2 + (-1 : Int32))) (lv' := [(2, .int (x2 + (-1 : Int32))), (0, .ref (a 3)), (1, .int x1)]) hx hb dX0_latestTimeOf_28 hl (k := 2) rfl rfl (by decide) rfl (fun ls hl => ?_)
        refine lv_goto (tgt := 7) hx hb dX0_latestTimeOf_31 (by decide) ?_
        exact ih x1 (x2 + (-1 : Int32)) _ _ _ V (lv_sub hl [1, 2, 0] rfl) h
      · have h := if_nn c3 h
        refine lv_aload_n hx hb dX0_latestTimeOf_21 rfl (lv_at hl 0 rfl) ?_
        refine va_get (C := RX0) (T := TX0) (N := 11) (ci := 0) hx hb hts igX0 hown C.1 V.1 3 rfl rfl 6 (by decide) (hts _ kt_88) (fun _ h => h) rfl dX0_latestTimeOf_22 ?_
        refine lv_iload_n hx hb dX0_latestTimeOf_25 rfl (lv_at hl 2 rfl) ?_
        obtain ⟨i4, h⟩ := ck_e h
        refine va_iald hx hb C.1 V.1 17 0 rfl rfl i4 dX0_latestTimeOf_26 ?_
        exact gw_reti hx hb hr rfl hlk V (Option.some.inj h) rfl dX0_latestTimeOf_27
set_option maxHeartbeats 4000000 in
theorem mX0_latestTimeOf {l : Launch} {D : va_G} {a : Nat → Nat} {cA : ClassId} {sz : Nat} {u : g_S} {p1 : Int32} {rv : Int32} (h : fcA_latestTimeOf u p1 = some rv) : gw_Mi D vwCl [(cA, .int)] (cjA a) gX (cjW a cA) l yX0_latestTimeOf wxX0_latestTimeOf rmX0_latestTimeOf sz u [.ref (a 3), .int p1] rv u := by
  refine gw_Mof (Qc := fun z => va_Qi (gw_Pi rv u) (gw_W D vwCl (cjW a cA)) (rg (cjA a) z)) (cc := cX0_latestTimeOf) (maxL := 3) (ret := (some .int)) (by decide) rfl ?_
  intro p e s m below meth c B C V
  obtain ⟨hx, hb, hml, hown, hts, hr, hlk⟩ := id B
  have hl := lv_entry ([.ref (a 3), .int p1]) (n := 3) (Nat.le_of_ble_eq_true rfl)
  rw [lg_entry_eq]
  generalize (lg_sl ([.ref (a 3), .int p1]) ++ List.replicate (3 - (lg_sl ([.ref (a 3), .int p1])).length) Slot.unset).toArray = ls at hl ⊢
  have hl : lv_has ls 3 [(0, .ref (a 3)), (1, .int p1)] := hl
  unfold fcA_latestTimeOf at h
  refine lv_aload_n hx hb dX0_latestTimeOf_0 rfl (lv_at hl 0 rfl) ?_
  refine va_get (C := RX0) (T := TX0) (N := 11) (ci := 0) hx hb hts igX0 hown C.1 V.1 3 rfl rfl 0 (by decide) (hts _ kt_76) (fun _ h => h) rfl dX0_latestTimeOf_1 ?_
  refine lv_iconst (v := (1 : Int32)) hx hb dX0_latestTimeOf_4 (by decide) ?_
  refine lv_isub hx hb dX0_latestTimeOf_5 ?_
  obtain ⟨w1, ew1, h⟩ := gl_e h
  refine gw_nmi ew1 ?_
  refine lv_istore_n (lv' := [(2, .int w1), (0, .ref (a 3)), (1, .int p1)]) hx hb dX0_latestTimeOf_6 rfl hl (by decide) rfl (fun ls hl => ?_)
  exact LX0_latestTimeOf_7 B C 200 p1 w1 _ _ _ V (lv_sub hl [1, 2, 0] rfl) h
set_option maxHeartbeats 4000000 in
theorem LX4_eventAt_28 {p : Program} {l : Launch} {e : Env} {s : State} {m : MethodId} {below : List Frame} {meth : Method} {c : Code} {args : Array Value} {D : va_G} {a : Nat → Nat} {cA : ClassId} (hl9 : l.stackTraces = false) (B : gw_B p s m args meth c cX4_eventAt 3 (some .int) RX4 gT) (htab : ∀ x ∈ c.exceptionTable.toList, False) (C : gw_C D vwCl [(cA, .int)] (cjA a) gX s) {rv : Nat × Int32} {u : g_S} : ∀ (x1 : Int32) (x2 : Int32) (y0 : Int32) (H : Heap) (locs : List Loc) (ls : Array Slot), gw_V D vwCl (cjA a) (cjW a cA) s u H locs → lv_has ls 3 [(0, .ref (a 0)), (1, .int x1), (2, .int x2)] → fcJ_eventAt_28 u x1 x2 y0 = some rv → W p l e (rmX4_eventAt rv.1) s m args below meth c H locs 0 0 (gx_Ei D vwCl (cjA a) (cjW a cA) below args s (gk rv.1) (6 * gk rv.1) rv.1 rv.2 u) (F0 m 28 ls [.int y0]) := by
  obtain ⟨hx, hb, hml, hown, hts, hr, hlk⟩ := id B
  intro x1 x2 y0 H locs ls V hl h
  unfold fcJ_eventAt_28 at h
  obtain ⟨v1, hv1, h⟩ := bi_e h
  refine gy_kv V (vx_runS (As := [.int y0]) (rest := []) ⟨hx, hb, hml, hown, hts⟩ (mX4_needKnown hl9 (D := D) (a := a) (cA := cA) (u := u) hv1) (cwS 1 hts gcjX4_41 rfl rfl rfl (by decide +kernel) ⟨Nat.le_of_ble_eq_true rfl, Nat.le_of_ble_eq_true rfl⟩) (gw_preS gX_ok C V [.int y0]) rfl rfl hl.1 rfl (lv_room (Nat.le_of_ble_eq_true rfl)) dX4_eventAt_28 (gkr (gk_le (fun q => in2a (if_f q h))))) (fun k0 H locs ce qe V hat => ?_) (fun k0 H locs V => ?_)
  · have h := if_f k0 h
    exact gx_out htab hlk V hat k0 (in2a h) rfl (gk1 (fun q => k0 ((in2a h).trans q))).1 (gk1 (fun q => k0 ((in2a h).trans q))).2
  have h := if_t k0 h
  refine lv_iload_n hx hb dX4_eventAt_31 rfl (lv_at hl 2 rfl) ?_
  by_cases c2 : x2 = (0 : Int32)
  · have h := if_t c2 h
    refine lv_tableIn (off := 40) (tgt := 72) hx hb dX4_eventAt_32 (by rw [c2]; decide) (by rw [c2]; decide) (by rw [c2]; rfl) (by decide) ?_
    refine lv_aload_n hx hb dX4_eventAt_72 rfl (lv_at hl 0 rfl) ?_
    refine va_get (C := RX4) (T := TX4) (N := 4) (ci := 4) hx hb hts igX4 hown C.1 V.1 0 rfl rfl 3 (by decide) (hts _ kt_159) (fun _ h => h) rfl dX4_eventAt_73 ?_
    refine va_get (C := RX1) (T := TX1) (N := 7) (ci := 1) hx hb hts igX1 hown C.1 V.1 4 rfl rfl 1 (by decide) (hts _ kt_130) (fun _ h => h) rfl dX4_eventAt_76 ?_
    refine lv_iload_n hx hb dX4_eventAt_79 rfl (lv_at hl 1 rfl) ?_
    obtain ⟨i3, h⟩ := ck_e h
    refine va_iald hx hb C.1 V.1 22 0 rfl rfl i3 dX4_eventAt_80 ?_
    exact gx_reti hx hb hr rfl hlk V (in2a h).symm (in2b h) rfl (Nat.zero_le _) (Nat.zero_le _) dX4_eventAt_81
  have h := if_f c2 h
  by_cases c4 : x2 = (1 : Int32)
  · have h := if_t c4 h
    refine lv_tableIn (off := 50) (tgt := 82) hx hb dX4_eventAt_32 (by rw [c4]; decide) (by rw [c4]; decide) (by rw [c4]; rfl) (by decide) ?_
    refine lv_aload_n hx hb dX4_eventAt_82 rfl (lv_at hl 0 rfl) ?_
    refine va_get (C := RX4) (T := TX4) (N := 4) (ci := 4) hx hb hts igX4 hown C.1 V.1 0 rfl rfl 2 (by decide) (hts _ kt_158) (fun _ h => h) rfl dX4_eventAt_83 ?_
    refine lv_iload_n hx hb dX4_eventAt_86 rfl (lv_at hl 1 rfl) ?_
    obtain ⟨v5, hv5, h⟩ := bi_e h
    refine gw_ki V (va_runV (As := [.int x1]) (rest := []) ⟨hx, hb, hml, hown, hts⟩ (mX0_countIn (D := D) (a := a) (cA := cA) (u := u) hv5) (cwV 1 hts gcjX4_130 rfl rfl rfl (by decide +kernel) ⟨Nat.le_of_ble_eq_true rfl, Nat.le_of_ble_eq_true rfl⟩) (gw_preV (q0 := 3) (ci := 0) gX_ok C V [.int x1] rfl rfl) rfl rfl hl.1 rfl (lv_room (Nat.le_of_ble_eq_true rfl)) dX4_eventAt_87 ⟨Nat.zero_le _, Nat.zero_le _⟩) (fun H locs V => ?_)
    exact gx_reti hx hb hr rfl hlk V (in2a h).symm (in2b h) rfl (Nat.zero_le _) (Nat.zero_le _) dX4_eventAt_90
  have h := if_f c4 h
  by_cases c6 : x2 = (2 : Int32)
  · have h := if_t c6 h
    refine lv_tableIn (off := 59) (tgt := 91) hx hb dX4_eventAt_32 (by rw [c6]; decide) (by rw [c6]; decide) (by rw [c6]; rfl) (by decide) ?_
    refine lv_aload_n hx hb dX4_eventAt_91 rfl (lv_at hl 0 rfl) ?_
    refine va_get (C := RX4) (T := TX4) (N := 4) (ci := 4) hx hb hts igX4 hown C.1 V.1 0 rfl rfl 3 (by decide) (hts _ kt_159) (fun _ h => h) rfl dX4_eventAt_92 ?_
    refine va_get (C := RX1) (T := TX1) (N := 7) (ci := 1) hx hb hts igX1 hown C.1 V.1 4 rfl rfl 2 (by decide) (hts _ kt_132) (fun _ h => h) rfl dX4_eventAt_95 ?_
    refine lv_iload_n hx hb dX4_eventAt_98 rfl (lv_at hl 1 rfl) ?_
    obtain ⟨i7, h⟩ := ck_e h
    refine va_iald hx hb C.1 V.1 23 0 rfl rfl i7 dX4_eventAt_99 ?_
    exact gx_reti hx hb hr rfl hlk V (in2a h).symm (in2b h) rfl (Nat.zero_le _) (Nat.zero_le _) dX4_eventAt_100
  have h := if_f c6 h
  by_cases c8 : x2 = (3 : Int32)
  · have h := if_t c8 h
    refine lv_tableIn (off := 69) (tgt := 101) hx hb dX4_eventAt_32 (by rw [c8]; decide) (by rw [c8]; decide) (by rw [c8]; rfl) (by decide) ?_
    refine lv_aload_n hx hb dX4_eventAt_101 rfl (lv_at hl 0 rfl) ?_
    refine va_get (C := RX4) (T := TX4) (N := 4) (ci := 4) hx hb hts igX4 hown C.1 V.1 0 rfl rfl 2 (by decide) (hts _ kt_158) (fun _ h => h) rfl dX4_eventAt_102 ?_
    refine lv_iload_n hx hb dX4_eventAt_105 rfl (lv_at hl 1 rfl) ?_
    obtain ⟨v9, hv9, h⟩ := bi_e h
    refine gw_ki V (va_runV (As := [.int x1]) (rest := []) ⟨hx, hb, hml, hown, hts⟩ (mX0_weighEvent (D := D) (a := a) (cA := cA) (u := u) hv9) (cwV 1 hts gcjX4_171 rfl rfl rfl (by decide +kernel) ⟨Nat.le_of_ble_eq_true rfl, Nat.le_of_ble_eq_true rfl⟩) (gw_preV (q0 := 3) (ci := 0) gX_ok C V [.int x1] rfl rfl) rfl rfl hl.1 rfl (lv_room (Nat.le_of_ble_eq_true rfl)) dX4_eventAt_106 ⟨Nat.zero_le _, Nat.zero_le _⟩) (fun H locs V => ?_)
    exact gx_reti hx hb hr rfl hlk V (in2a h).symm (in2b h) rfl (Nat.zero_le _) (Nat.zero_le _) dX4_eventAt_109
  have h := if_f c8 h
  by_cases c10 : x2 = (4 : Int32)
  · have h := if_t c10 h
    refine lv_tableIn (off := 78) (tgt := 110) hx hb dX4_eventAt_32 (by rw [c10]; decide) (by rw [c10]; decide) (by rw [c10]; rfl) (by decide) ?_
    refine lv_aload_n hx hb dX4_eventAt_110 rfl (lv_at hl 0 rfl) ?_
    refine va_get (C := RX4) (T := TX4) (N := 4) (ci := 4) hx hb hts igX4 hown C.1 V.1 0 rfl rfl 2 (by decide) (hts _ kt_158) (fun _ h => h) rfl dX4_eventAt_111 ?_
    refine lv_iload_n hx hb dX4_eventAt_114 rfl (lv_at hl 1 rfl) ?_
    obtain ⟨v11, hv11, h⟩ := bi_e h
    refine gw_ki V (va_runV (As := [.int x1]) (rest := []) ⟨hx, hb, hml, hown, hts⟩ (mX0_pointOf (D := D) (a := a) (cA := cA) (u := u) hv11) (cwV 1 hts gcjX4_174 rfl rfl rfl (by decide +kernel) ⟨Nat.le_of_ble_eq_true rfl, Nat.le_of_ble_eq_true rfl⟩) (gw_preV (q0 := 3) (ci := 0) gX_ok C V [.int x1] rfl rfl) rfl rfl hl.1 rfl (lv_room (Nat.le_of_ble_eq_true rfl)) dX4_eventAt_115 ⟨Nat.zero_le _, Nat.zero_le _⟩) (fun H locs V => ?_)
    exact gx_reti hx hb hr rfl hlk V (in2a h).symm (in2b h) rfl (Nat.zero_le _) (Nat.zero_le _) dX4_eventAt_118
  have h := if_f c10 h
  by_cases c12 : x2 = (5 : Int32)
  · have h := if_t c12 h
    refine lv_tableIn (off := 87) (tgt := 119) hx hb dX4_eventAt_32 (by rw [c12]; decide) (by rw [c12]; decide) (by rw [c12]; rfl) (by decide) ?_
    refine lv_aload_n hx hb dX4_eventAt_119 rfl (lv_at hl 0 rfl) ?_
    refine va_get (C := RX4) (T := TX4) (N := 4) (ci := 4) hx hb hts igX4 hown C.1 V.1 0 rfl rfl 3 (by decide) (hts _ kt_159) (fun _ h => h) rfl dX4_eventAt_120 ?_
    refine va_get (C := RX1) (T := TX1) (N := 7) (ci := 1) hx hb hts igX1 hown C.1 V.1 4 rfl rfl 3 (by decide) (hts _ kt_134) (fun _ h => h) rfl dX4_eventAt_123 ?_
    refine lv_iload_n hx hb dX4_eventAt_126 rfl (lv_at hl 1 rfl) ?_
    obtain ⟨i13, h⟩ := ck_e h
    refine va_iald hx hb C.1 V.1 24 0 rfl rfl i13 dX4_eventAt_127 ?_
    exact gx_reti hx hb hr rfl hlk V (in2a h).symm (in2b h) rfl (Nat.zero_le _) (Nat.zero_le _) dX4_eventAt_128
  have h := if_f c12 h
  refine lv_tableOut (tgt := 129) hx hb dX4_eventAt_32 (by have := lv_neT c2 (a := 0) (by decide); have := lv_neT c4 (a := 1) (by decide); have := lv_neT c6 (a := 2) (by decide); have := lv_neT c8 (a := 3) (by decide); have := lv_neT c10 (a := 4) (by decide); have := lv_neT c12 (a := 5) (by decide); omega) (by decide) ?_
  refine lv_aload_n hx hb dX4_eventAt_129 rfl (lv_at hl 0 rfl) ?_
  refine va_get (C := RX4) (T := TX4) (N := 4) (ci := 4) hx hb hts igX4 hown C.1 V.1 0 rfl rfl 2 (by decide) (hts _ kt_158) (fun _ h => h) rfl dX4_eventAt_130 ?_
  refine lv_iload_n hx hb dX4_eventAt_133 rfl (lv_at hl 1 rfl) ?_
  obtain ⟨v14, hv14, h⟩ := bi_e h
  refine gw_ki V (va_runV (As := [.int x1]) (rest := []) ⟨hx, hb, hml, hown, hts⟩ (mX0_latestTimeOf (D := D) (a := a) (cA := cA) (u := u) hv14) (cwV 1 hts gcjX4_177 rfl rfl rfl (by decide +kernel) ⟨Nat.le_of_ble_eq_true rfl, Nat.le_of_ble_eq_true rfl⟩) (gw_preV (q0 := 3) (ci := 0) gX_ok C V [.int x1] rfl rfl) rfl rfl hl.1 rfl (lv_room (Nat.le_of_ble_eq_true rfl)) dX4_eventAt_134 ⟨Nat.zero_le _, Nat.zero_le _⟩) (fun H locs V => ?_)
  exact gx_reti hx hb hr rfl hlk V (in2a h).symm (in2b h) rfl (Nat.zero_le _) (Nat.zero_le _) dX4_eventAt_137
set_option maxHeartbeats 4000000 in
theorem mX4_eventAt {l : Launch} (hl9 : l.stackTraces = false) {D : va_G} {a : Nat → Nat} {cA : ClassId} {sz : Nat} {u : g_S} {p1 : Int32} {p2 : Int32} {rv : Nat × Int32} (h : fcJ_eventAt u p1 p2 = some rv) : gx_Mi D vwCl [(cA, .int)] (cjA a) gX (cjW a cA) l yX4_eventAt wxX4_eventAt (rmX4_eventAt rv.1) (gk rv.1) (6 * gk rv.1) sz u [.ref (a 0), .int p1, .int p2] rv.1 rv.2 u := by
  refine gx_Mof (Qc := fun z => va_Qi (gx_Pi rv.1 rv.2 u) (gw_W D vwCl (cjW a cA)) (rg (cjA a) z)) (XC := fun z => vx_X (gx_Px rv.1 u) (gx_W D vwCl (cjW a cA) rv.1) (rg (cjA a) z)) (cc := cX4_eventAt) (maxL := 3) (ret := (some .int)) (by decide) rfl ?_
  intro p e s m below meth c B htab C V
  obtain ⟨hx, hb, hml, hown, hts, hr, hlk⟩ := id B
  have hl := lv_entry ([.ref (a 0), .int p1, .int p2]) (n := 3) (Nat.le_of_ble_eq_true rfl)
  rw [lg_entry_eq]
  generalize (lg_sl ([.ref (a 0), .int p1, .int p2]) ++ List.replicate (3 - (lg_sl ([.ref (a 0), .int p1, .int p2])).length) Slot.unset).toArray = ls at hl ⊢
  have hl : lv_has ls 3 [(0, .ref (a 0)), (1, .int p1), (2, .int p2)] := hl
  unfold fcJ_eventAt at h
  refine lv_iload_n hx hb dX4_eventAt_0 rfl (lv_at hl 1 rfl) ?_
  refine lv_aload_n hx hb dX4_eventAt_1 rfl (lv_at hl 0 rfl) ?_
  refine va_get (C := RX4) (T := TX4) (N := 4) (ci := 4) hx hb hts igX4 hown C.1 V.1 0 rfl rfl 3 (by decide) (hts _ kt_159) (fun _ h => h) rfl dX4_eventAt_2 ?_
  refine va_get (C := RX1) (T := TX1) (N := 7) (ci := 1) hx hb hts igX1 hown C.1 V.1 4 rfl rfl 0 (by decide) (hts _ kt_128) (fun _ h => h) rfl dX4_eventAt_5 ?_
  obtain ⟨v1, hv1, h⟩ := bi_e h
  refine gw_ki V (va_runS (As := [.int p1, .int (u.1 1)]) (rest := []) ⟨hx, hb, hml, hown, hts⟩ (mX4_isBelow (D := D) (a := a) (cA := cA) (u := u) hv1) (cwS 2 hts gcjX4_37 rfl rfl rfl (by decide +kernel) ⟨Nat.le_of_ble_eq_true rfl, Nat.le_of_ble_eq_true rfl⟩) (gw_preS gX_ok C V [.int p1, .int (u.1 1)]) rfl rfl hl.1 rfl (lv_room (Nat.le_of_ble_eq_true rfl)) dX4_eventAt_8 ⟨Nat.zero_le _, Nat.zero_le _⟩) (fun H locs V => ?_)
  refine lv_if_eq (tgt := 27) hx hb dX4_eventAt_11 (by decide) (fun c2 => ?_) (fun c2 => ?_)
  · have h := if_t c2 h
    refine lv_iconst (v := (0 : Int32)) hx hb dX4_eventAt_27 (by decide) ?_
    exact LX4_eventAt_28 hl9 B htab C p1 p2 (0 : Int32) _ _ _ V (lv_sub hl [0, 1, 2] rfl) h
  · have h := if_f c2 h
    refine lv_iload_n hx hb dX4_eventAt_14 rfl (lv_at hl 2 rfl) ?_
    refine lv_bipush (v := (7 : Int32)) hx hb dX4_eventAt_15 (by decide) ?_
    obtain ⟨v3, hv3, h⟩ := bi_e h
    refine gw_ki V (va_runS (As := [.int p2, .int (7 : Int32)]) (rest := []) ⟨hx, hb, hml, hown, hts⟩ (mX4_isBelow (D := D) (a := a) (cA := cA) (u := u) hv3) (cwS 2 hts gcjX4_37 rfl rfl rfl (by decide +kernel) ⟨Nat.le_of_ble_eq_true rfl, Nat.le_of_ble_eq_true rfl⟩) (gw_preS gX_ok C V [.int p2, .int (7 : Int32)]) rfl rfl hl.1 rfl (lv_room (Nat.le_of_ble_eq_true rfl)) dX4_eventAt_17 ⟨Nat.zero_le _, Nat.zero_le _⟩) (fun H locs V => ?_)
    refine lv_if_eq (tgt := 27) hx hb dX4_eventAt_20 (by decide) (fun c4 => ?_) (fun c4 => ?_)
    · have h := if_t c4 h
      refine lv_iconst (v := (0 : Int32)) hx hb dX4_eventAt_27 (by decide) ?_
      exact LX4_eventAt_28 hl9 B htab C p1 p2 (0 : Int32) _ _ _ V (lv_sub hl [0, 1, 2] rfl) h
    · have h := if_f c4 h
      refine lv_iconst (v := (1 : Int32)) hx hb dX4_eventAt_23 (by decide) ?_
      refine lv_goto (tgt := 28) hx hb dX4_eventAt_24 (by decide) ?_
      exact LX4_eventAt_28 hl9 B htab C p1 p2 (1 : Int32) _ _ _ V (lv_sub hl [0, 1, 2] rfl) h
