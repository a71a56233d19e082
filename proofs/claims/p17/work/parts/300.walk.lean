set_option maxHeartbeats 4000000 in
theorem LX6_callAt_23 {p : Program} {l : Launch} {e : Env} {s : State} {m : MethodId} {below : List Frame} {meth : Method} {c : Code} {args : Array Value} {D : va_G} {a : Nat → Nat} {cA : ClassId} (B : gw_B p s m args meth c cX6_callAt 3 (some .int) RX6 gT) (C : gw_C D vwCl [(cA, .int)] (mdA a) gY s) {rv : Int32 × g_S} : ∀ (x1 : Int32) (x2 : Int32) (y1 : Int32) (u : g_S) (H : Heap) (locs : List Loc) (ls : Array Slot), gw_V D vwCl (mdA a) (mdW a cA) s u H locs → lv_has ls 3 [(0, .ref (a 0)), (1, .int x1), (2, .int x2)] → fm_callAt_23 u x1 x2 y1 = some rv → W p l e rmX6_callAt s m args below meth c H locs 0 0 (gw_Ei D vwCl (mdA a) (mdW a cA) below args s rv.1 rv.2) (F0 m 23 ls [.int y1, .ref (a 0)]) := by
  obtain ⟨hx, hb, hml, hown, hts, hr, hlk⟩ := id B
  intro x1 x2 y1 u H locs ls V hl h
  unfold fm_callAt_23 at h
  refine lv_iconst (v := (0 : Int32)) hx hb dX6_callAt_23 (by decide) ?_
  refine lv_iconst (v := (0 : Int32)) hx hb dX6_callAt_24 (by decide) ?_
  obtain ⟨v1, hv1, h⟩ := bi_e h
  refine gw_ki V (va_runV (As := [.int y1, .int (0 : Int32), .int (0 : Int32)]) (rest := []) ⟨hx, hb, hml, hown, hts⟩ (mX6_throwing (D := D) (a := a) (cA := cA) (u := u) hv1) (cwV 3 hts gmdX6_90 rfl rfl rfl (by decide +kernel) ⟨Nat.le_of_ble_eq_true rfl, Nat.le_of_ble_eq_true rfl⟩) (gw_preV (q0 := 0) (ci := 5) gY_ok C V [.int y1, .int (0 : Int32), .int (0 : Int32)] rfl rfl) rfl rfl hl.1 rfl (lv_room (Nat.le_of_ble_eq_true rfl)) dX6_callAt_25 ⟨Nat.zero_le _, Nat.zero_le _⟩) (fun H locs V => ?_)
  refine lv_if_eq (tgt := 33) hx hb dX6_callAt_28 (by decide) (fun c2 => ?_) (fun c2 => ?_)
  · have h := if_t c2 h
    refine lv_iload_n hx hb dX6_callAt_33 rfl (lv_at hl 2 rfl) ?_
    refine lv_if_ne (tgt := 46) hx hb dX6_callAt_34 (by decide) (fun c3 => ?_) (fun c3 => ?_)
    · have h := if_t c3 h
      refine lv_iload_n hx hb dX6_callAt_46 rfl (lv_at hl 2 rfl) ?_
      refine lv_iconst (v := (1 : Int32)) hx hb dX6_callAt_47 (by decide) ?_
      refine lv_icmp_ne (tgt := 60) hx hb dX6_callAt_48 (by decide) (fun c4 => ?_) (fun c4 => ?_)
      · have h := if_t c4 h
        refine lv_iload_n hx hb dX6_callAt_60 rfl (lv_at hl 2 rfl) ?_
        refine lv_iconst (v := (2 : Int32)) hx hb dX6_callAt_61 (by decide) ?_
        refine lv_icmp_ne (tgt := 74) hx hb dX6_callAt_62 (by decide) (fun c5 => ?_) (fun c5 => ?_)
        · have h := if_t c5 h
          refine lv_iload_n hx hb dX6_callAt_74 rfl (lv_at hl 2 rfl) ?_
          refine lv_iconst (v := (3 : Int32)) hx hb dX6_callAt_75 (by decide) ?_
          refine lv_icmp_ne (tgt := 88) hx hb dX6_callAt_76 (by decide) (fun c6 => ?_) (fun c6 => ?_)
          · have h := if_t c6 h
            refine lv_aload_n hx hb dX6_callAt_88 rfl (lv_at hl 0 rfl) ?_
            refine va_get (C := RX6) (T := TX6) (N := 24) (ci := 5) hx hb hts igX6 hown C.1 V.1 0 rfl rfl 18 (by decide) (hts _ kt_621) (fun _ h => h) rfl dX6_callAt_89 ?_
            refine lv_iload_n hx hb dX6_callAt_92 rfl (lv_at hl 1 rfl) ?_
            obtain ⟨i7, h⟩ := ck_e h
            refine va_iald hx hb C.1 V.1 16 0 rfl rfl i7 dX6_callAt_93 ?_
            exact gw_reti hx hb hr rfl hlk V (in2a h) (in2b h) dX6_callAt_94
          · have h := if_nn c6 h
            refine lv_aload_n hx hb dX6_callAt_79 rfl (lv_at hl 0 rfl) ?_
            refine va_get (C := RX6) (T := TX6) (N := 24) (ci := 5) hx hb hts igX6 hown C.1 V.1 0 rfl rfl 11 (by decide) (hts _ kt_614) (fun _ h => h) rfl dX6_callAt_80 ?_
            refine lv_iload_n hx hb dX6_callAt_83 rfl (lv_at hl 1 rfl) ?_
            obtain ⟨i8, h⟩ := ck_e h
            refine va_iald hx hb C.1 V.1 9 0 rfl rfl i8 dX6_callAt_84 ?_
            refine lv_goto (tgt := 94) hx hb dX6_callAt_85 (by decide) ?_
            exact gw_reti hx hb hr rfl hlk V (in2a h) (in2b h) dX6_callAt_94
        · have h := if_nn c5 h
          refine lv_aload_n hx hb dX6_callAt_65 rfl (lv_at hl 0 rfl) ?_
          refine va_get (C := RX6) (T := TX6) (N := 24) (ci := 5) hx hb hts igX6 hown C.1 V.1 0 rfl rfl 17 (by decide) (hts _ kt_620) (fun _ h => h) rfl dX6_callAt_66 ?_
          refine lv_iload_n hx hb dX6_callAt_69 rfl (lv_at hl 1 rfl) ?_
          obtain ⟨i9, h⟩ := ck_e h
          refine va_iald hx hb C.1 V.1 15 0 rfl rfl i9 dX6_callAt_70 ?_
          refine lv_goto (tgt := 94) hx hb dX6_callAt_71 (by decide) ?_
          exact gw_reti hx hb hr rfl hlk V (in2a h) (in2b h) dX6_callAt_94
      · have h := if_nn c4 h
        refine lv_aload_n hx hb dX6_callAt_51 rfl (lv_at hl 0 rfl) ?_
        refine va_get (C := RX6) (T := TX6) (N := 24) (ci := 5) hx hb hts igX6 hown C.1 V.1 0 rfl rfl 16 (by decide) (hts _ kt_619) (fun _ h => h) rfl dX6_callAt_52 ?_
        refine lv_iload_n hx hb dX6_callAt_55 rfl (lv_at hl 1 rfl) ?_
        obtain ⟨i10, h⟩ := ck_e h
        refine va_iald hx hb C.1 V.1 14 0 rfl rfl i10 dX6_callAt_56 ?_
        refine lv_goto (tgt := 94) hx hb dX6_callAt_57 (by decide) ?_
        exact gw_reti hx hb hr rfl hlk V (in2a h) (in2b h) dX6_callAt_94
    · have h := if_nn c3 h
      refine lv_aload_n hx hb dX6_callAt_37 rfl (lv_at hl 0 rfl) ?_
      refine va_get (C := RX6) (T := TX6) (N := 24) (ci := 5) hx hb hts igX6 hown C.1 V.1 0 rfl rfl 15 (by decide) (hts _ kt_618) (fun _ h => h) rfl dX6_callAt_38 ?_
      refine lv_iload_n hx hb dX6_callAt_41 rfl (lv_at hl 1 rfl) ?_
      obtain ⟨i11, h⟩ := ck_e h
      refine va_iald hx hb C.1 V.1 13 0 rfl rfl i11 dX6_callAt_42 ?_
      refine lv_goto (tgt := 94) hx hb dX6_callAt_43 (by decide) ?_
      exact gw_reti hx hb hr rfl hlk V (in2a h) (in2b h) dX6_callAt_94
  · have h := if_f c2 h
    refine lv_iconst (v := (0 : Int32)) hx hb dX6_callAt_31 (by decide) ?_
    exact gw_reti hx hb hr rfl hlk V (in2a h) (in2b h) dX6_callAt_32
set_option maxHeartbeats 4000000 in
theorem mX6_callAt {l : Launch} {D : va_G} {a : Nat → Nat} {cA : ClassId} {sz : Nat} {u : g_S} {p1 : Int32} {p2 : Int32} {rv : Int32 × g_S} (h : fm_callAt u p1 p2 = some rv) : gw_Mi D vwCl [(cA, .int)] (mdA a) gY (mdW a cA) l yX6_callAt wxX6_callAt rmX6_callAt sz u [.ref (a 0), .int p1, .int p2] rv.1 rv.2 := by
  refine gw_Mof (Qc := fun z => va_Qi (gw_Pi rv.1 rv.2) (gw_W D vwCl (mdW a cA)) (rg (mdA a) z)) (cc := cX6_callAt) (maxL := 3) (ret := (some .int)) (by decide) rfl ?_
  intro p e s m below meth c B C V
  obtain ⟨hx, hb, hml, hown, hts, hr, hlk⟩ := id B
  have hl := lv_entry ([.ref (a 0), .int p1, .int p2]) (n := 3) (Nat.le_of_ble_eq_true rfl)
  rw [lg_entry_eq]
  generalize (lg_sl ([.ref (a 0), .int p1, .int p2]) ++ List.replicate (3 - (lg_sl ([.ref (a 0), .int p1, .int p2])).length) Slot.unset).toArray = ls at hl ⊢
  have hl : lv_has ls 3 [(0, .ref (a 0)), (1, .int p1), (2, .int p2)] := hl
  unfold fm_callAt at h
  refine lv_aload_n hx hb dX6_callAt_0 rfl (lv_at hl 0 rfl) ?_
  refine lv_aload_n hx hb dX6_callAt_1 rfl (lv_at hl 0 rfl) ?_
  refine lv_iload_n hx hb dX6_callAt_2 rfl (lv_at hl 1 rfl) ?_
  obtain ⟨v1, hv1, h⟩ := bi_e h
  refine gw_ki V (va_runV (As := [.int p1]) (rest := [.ref (a 0)]) ⟨hx, hb, hml, hown, hts⟩ (mX6_isCall (D := D) (a := a) (cA := cA) (u := u) hv1) (cwV 1 hts gmdX6_167 rfl rfl rfl (by decide +kernel) ⟨Nat.le_of_ble_eq_true rfl, Nat.le_of_ble_eq_true rfl⟩) (gw_preV (q0 := 0) (ci := 5) gY_ok C V [.int p1] rfl rfl) rfl rfl hl.1 rfl (lv_room (Nat.le_of_ble_eq_true rfl)) dX6_callAt_3 ⟨Nat.zero_le _, Nat.zero_le _⟩) (fun H locs V => ?_)
  refine lv_if_eq (tgt := 18) hx hb dX6_callAt_6 (by decide) (fun c2 => ?_) (fun c2 => ?_)
  · have h := if_t c2 h
    refine lv_iconst (v := (1 : Int32)) hx hb dX6_callAt_18 (by decide) ?_
    refine lv_goto (tgt := 23) hx hb dX6_callAt_19 (by decide) ?_
    exact LX6_callAt_23 B C p1 p2 (1 : Int32) u _ _ _ V (lv_sub hl [0, 1, 2] rfl) h
  · have h := if_f c2 h
    refine lv_iload_n hx hb dX6_callAt_9 rfl (lv_at hl 2 rfl) ?_
    refine lv_iconst (v := (0 : Int32)) hx hb dX6_callAt_10 (by decide) ?_
    refine lv_iconst (v := (4 : Int32)) hx hb dX6_callAt_11 (by decide) ?_
    obtain ⟨v3, hv3, h⟩ := bi_e h
    refine gw_ki V (va_runS (As := [.int p2, .int (0 : Int32), .int (4 : Int32)]) (rest := [.ref (a 0)]) ⟨hx, hb, hml, hown, hts⟩ (mX6_in (D := D) (a := a) (cA := cA) (u := u) hv3) (cwS 3 hts gmdX6_74 rfl rfl rfl (by decide +kernel) ⟨Nat.le_of_ble_eq_true rfl, Nat.le_of_ble_eq_true rfl⟩) (gw_preS gY_ok C V [.int p2, .int (0 : Int32), .int (4 : Int32)]) rfl rfl hl.1 rfl (lv_room (Nat.le_of_ble_eq_true rfl)) dX6_callAt_12 ⟨Nat.zero_le _, Nat.zero_le _⟩) (fun H locs V => ?_)
    refine lv_if_ne (tgt := 22) hx hb dX6_callAt_15 (by decide) (fun c4 => ?_) (fun c4 => ?_)
    · have h := if_t c4 h
      refine lv_iconst (v := (0 : Int32)) hx hb dX6_callAt_22 (by decide) ?_
      exact LX6_callAt_23 B C p1 p2 (0 : Int32) u _ _ _ V (lv_sub hl [0, 1, 2] rfl) h
    · have h := if_nn c4 h
      refine lv_iconst (v := (1 : Int32)) hx hb dX6_callAt_18 (by decide) ?_
      refine lv_goto (tgt := 23) hx hb dX6_callAt_19 (by decide) ?_
      exact LX6_callAt_23 B C p1 p2 (1 : Int32) u _ _ _ V (lv_sub hl [0, 1, 2] rfl) h
set_option maxHeartbeats 4000000 in
theorem LX6_weightOf_4 {p : Program} {l : Launch} {e : Env} {s : State} {m : MethodId} {below : List Frame} {meth : Method} {c : Code} {args : Array Value} {D : va_G} {a : Nat → Nat} {cA : ClassId} (B : gw_B p s m args meth c cX6_weightOf 4 (some .int) RX6 gT) (C : gw_C D vwCl [(cA, .int)] (mdA a) gY s) {rv : Int32} {u : g_S} : ∀ (n : Nat) (x1 : Int32) (x2 : Int32) (x3 : Int32) (H : Heap) (locs : List Loc) (ls : Array Slot), gw_V D vwCl (mdA a) (mdW a cA) s u H locs → lv_has ls 4 [(0, .ref (a 0)), (1, .int x1), (2, .int x2), (3, .int x3)] → fm_weightOf_4 u n x1 x2 x3 = some rv → W p l e rmX6_weightOf s m args below meth c H locs 0 0 (gw_Ei D vwCl (mdA a) (mdW a cA) below args s rv u) (F0 m 4 ls []) := by
  obtain ⟨hx, hb, hml, hown, hts, hr, hlk⟩ := id B
  intro n
  induction n with
  | zero =>
    intro x1 x2 x3 H locs ls V hl h
    cases h
  | succ n ih =>
    intro x1 x2 x3 H locs ls V hl h
    rw [fm_weightOf_4_s] at h
    refine lv_iload_n hx hb dX6_weightOf_4 rfl (lv_at hl 3 rfl) ?_
    refine lv_aload_n hx hb dX6_weightOf_5 rfl (lv_at hl 0 rfl) ?_
    refine va_get (C := RX6) (T := TX6) (N := 24) (ci := 5) hx hb hts igX6 hown C.1 V.1 0 rfl rfl 8 (by decide) (hts _ kt_611) (fun _ h => h) rfl dX6_weightOf_6 ?_
    refine lv_icmp_ge (tgt := 72) hx hb dX6_weightOf_9 (by decide) (fun c1 => ?_) (fun c1 => ?_)
    · have h := if_t c1 h
      refine lv_iload_n hx hb dX6_weightOf_72 rfl (lv_at hl 2 rfl) ?_
      exact gw_reti hx hb hr rfl hlk V (Option.some.inj h) rfl dX6_weightOf_73
    · have h := if_f c1 h
      refine lv_aload_n hx hb dX6_weightOf_12 rfl (lv_at hl 0 rfl) ?_
      refine va_get (C := RX6) (T := TX6) (N := 24) (ci := 5) hx hb hts igX6 hown C.1 V.1 0 rfl rfl 15 (by decide) (hts _ kt_618) (fun _ h => h) rfl dX6_weightOf_13 ?_
      refine lv_iload_n hx hb dX6_weightOf_16 rfl (lv_at hl 3 rfl) ?_
      obtain ⟨i2, h⟩ := ck_e h
      refine va_iald hx hb C.1 V.1 13 0 rfl rfl i2 dX6_weightOf_17 ?_
      refine lv_iload_n hx hb dX6_weightOf_18 rfl (lv_at hl 1 rfl) ?_
      refine lv_icmp_ne (tgt := 66) hx hb dX6_weightOf_19 (by decide) (fun c3 => ?_) (fun c3 => ?_)
      · have h := if_t c3 h
        refine lv_iinc (v := (x3 + (1 : Int32))) (lv' := [(3, .int (x3 + (1 : Int32))), (0, .ref (a 0)), (1, .int x1), (2, .int x2)]) hx hb dX6_weightOf_66 hl (k := 3) rfl rfl (by decide) rfl (fun ls hl => ?_)
        refine lv_goto (tgt := 4) hx hb dX6_weightOf_69 (by decide) ?_
        exact ih x1 x2 (x3 + (1 : Int32)) _ _ _ V (lv_sub hl [1, 2, 3, 0] rfl) h
      · have h := if_nn c3 h
        refine lv_aload_n hx hb dX6_weightOf_22 rfl (lv_at hl 0 rfl) ?_
        refine lv_iload_n hx hb dX6_weightOf_23 rfl (lv_at hl 3 rfl) ?_
        obtain ⟨v4, hv4, h⟩ := bi_e h
        refine gw_ki V (va_runV (As := [.int x3]) (rest := []) ⟨hx, hb, hml, hown, hts⟩ (mX6_isHoax (D := D) (a := a) (cA := cA) (u := u) hv4) (cwV 1 hts gmdX6_121 rfl rfl rfl (by decide +kernel) ⟨Nat.le_of_ble_eq_true rfl, Nat.le_of_ble_eq_true rfl⟩) (gw_preV (q0 := 0) (ci := 5) gY_ok C V [.int x3] rfl rfl) rfl rfl hl.1 rfl (lv_room (Nat.le_of_ble_eq_true rfl)) dX6_weightOf_24 ⟨Nat.zero_le _, Nat.zero_le _⟩) (fun H locs V => ?_)
        refine lv_if_ne (tgt := 66) hx hb dX6_weightOf_27 (by decide) (fun c5 => ?_) (fun c5 => ?_)
        · have h := if_t c5 h
          refine lv_iinc (v := (x3 + (1 : Int32))) (lv' := [(3, .int (x3 + (1 : Int32))), (0, .ref (a 0)), (1, .int x1), (2, .int x2)]) hx hb dX6_weightOf_66 hl (k := 3) rfl rfl (by decide) rfl (fun ls hl => ?_)
          refine lv_goto (tgt := 4) hx hb dX6_weightOf_69 (by decide) ?_
          exact ih x1 x2 (x3 + (1 : Int32)) _ _ _ V (lv_sub hl [1, 2, 3, 0] rfl) h
        · have h := if_nn c5 h
          refine lv_iload_n hx hb dX6_weightOf_30 rfl (lv_at hl 2 rfl) ?_
          refine lv_iconst (v := (4 : Int32)) hx hb dX6_weightOf_31 (by decide) ?_
          refine lv_aload_n hx hb dX6_weightOf_32 rfl (lv_at hl 0 rfl) ?_
          refine va_get (C := RX6) (T := TX6) (N := 24) (ci := 5) hx hb hts igX6 hown C.1 V.1 0 rfl rfl 17 (by decide) (hts _ kt_620) (fun _ h => h) rfl dX6_weightOf_33 ?_
          refine lv_iload_n hx hb dX6_weightOf_36 rfl (lv_at hl 3 rfl) ?_
          obtain ⟨i6, h⟩ := ck_e h
          refine va_iald hx hb C.1 V.1 15 0 rfl rfl i6 dX6_weightOf_37 ?_
          refine lv_iconst (v := (1 : Int32)) hx hb dX6_weightOf_38 (by decide) ?_
          refine lv_iand hx hb dX6_weightOf_39 ?_
          refine lv_if_eq (tgt := 47) hx hb dX6_weightOf_40 (by decide) (fun c7 => ?_) (fun c7 => ?_)
          · have h := if_t c7 h
            refine lv_iconst (v := (0 : Int32)) hx hb dX6_weightOf_47 (by decide) ?_
            refine lv_isub hx hb dX6_weightOf_48 ?_
            refine lv_aload_n hx hb dX6_weightOf_49 rfl (lv_at hl 0 rfl) ?_
            refine va_get (C := RX6) (T := TX6) (N := 24) (ci := 5) hx hb hts igX6 hown C.1 V.1 0 rfl rfl 12 (by decide) (hts _ kt_615) (fun _ h => h) rfl dX6_weightOf_50 ?_
            refine lv_iload_n hx hb dX6_weightOf_53 rfl (lv_at hl 3 rfl) ?_
            obtain ⟨i8, h⟩ := ck_e h
            refine va_iald hx hb C.1 V.1 10 0 rfl rfl i8 dX6_weightOf_54 ?_
            refine lv_if_lt (tgt := 62) hx hb dX6_weightOf_55 (by decide) (fun c9 => ?_) (fun c9 => ?_)
            · have h := if_t c9 h
              refine lv_iconst (v := (0 : Int32)) hx hb dX6_weightOf_62 (by decide) ?_
              refine lv_iadd hx hb dX6_weightOf_63 ?_
              refine lv_iadd hx hb dX6_weightOf_64 ?_
              obtain ⟨w10, ew10, h⟩ := gl_e h
              refine gw_nmi ew10 ?_
              refine lv_istore_n (lv' := [(2, .int w10), (0, .ref (a 0)), (1, .int x1), (3, .int x3)]) hx hb dX6_weightOf_65 rfl hl (by decide) rfl (fun ls hl => ?_)
              refine lv_iinc (v := (x3 + (1 : Int32))) (lv' := [(3, .int (x3 + (1 : Int32))), (2, .int w10), (0, .ref (a 0)), (1, .int x1)]) hx hb dX6_weightOf_66 hl (k := 3) rfl rfl (by decide) rfl (fun ls hl => ?_)
              refine lv_goto (tgt := 4) hx hb dX6_weightOf_69 (by decide) ?_
              exact ih x1 w10 (x3 + (1 : Int32)) _ _ _ V (lv_sub hl [2, 3, 1, 0] rfl) h
            · have h := if_f c9 h
              refine lv_iconst (v := (1 : Int32)) hx hb dX6_weightOf_58 (by decide) ?_
              refine lv_goto (tgt := 63) hx hb dX6_weightOf_59 (by decide) ?_
              refine lv_iadd hx hb dX6_weightOf_63 ?_
              refine lv_iadd hx hb dX6_weightOf_64 ?_
              obtain ⟨w11, ew11, h⟩ := gl_e h
              refine gw_nmi ew11 ?_
              refine lv_istore_n (lv' := [(2, .int w11), (0, .ref (a 0)), (1, .int x1), (3, .int x3)]) hx hb dX6_weightOf_65 rfl hl (by decide) rfl (fun ls hl => ?_)
              refine lv_iinc (v := (x3 + (1 : Int32))) (lv' := [(3, .int (x3 + (1 : Int32))), (2, .int w11), (0, .ref (a 0)), (1, .int x1)]) hx hb dX6_weightOf_66 hl (k := 3) rfl rfl (by decide) rfl (fun ls hl => ?_)
              refine lv_goto (tgt := 4) hx hb dX6_weightOf_69 (by decide) ?_
              exact ih x1 w11 (x3 + (1 : Int32)) _ _ _ V (lv_sub hl [2, 3, 1, 0] rfl) h
          · have h := if_f c7 h
            refine lv_iconst (v := (2 : Int32)) hx hb dX6_weightOf_43 (by decide) ?_
            refine lv_goto (tgt := 48) hx hb dX6_weightOf_44 (by decide) ?_
            refine lv_isub hx hb dX6_weightOf_48 ?_
            refine lv_aload_n hx hb dX6_weightOf_49 rfl (lv_at hl 0 rfl) ?_
            refine va_get (C := RX6) (T := TX6) (N := 24) (ci := 5) hx hb hts igX6 hown C.1 V.1 0 rfl rfl 12 (by decide) (hts _ kt_615) (fun _ h => h) rfl dX6_weightOf_50 ?_
            refine lv_iload_n hx hb dX6_weightOf_53 rfl (lv_at hl 3 rfl) ?_
            obtain ⟨i12, h⟩ := ck_e h
            refine va_iald hx hb C.1 V.1 10 0 rfl rfl i12 dX6_weightOf_54 ?_
            refine lv_if_lt (tgt := 62) hx hb dX6_weightOf_55 (by decide) (fun c13 => ?_) (fun c13 => ?_)
            · have h := if_t c13 h
              refine lv_iconst (v := (0 : Int32)) hx hb dX6_weightOf_62 (by decide) ?_
              refine lv_iadd hx hb dX6_weightOf_63 ?_
              refine lv_iadd hx hb dX6_weightOf_64 ?_
              obtain ⟨w14, ew14, h⟩ := gl_e h
              refine gw_nmi ew14 ?_
              refine lv_istore_n (lv' := [(2, .int w14), (0, .ref (a 0)), (1, .int x1), (3, .int x3)]) hx hb dX6_weightOf_65 rfl hl (by decide) rfl (fun ls hl => ?_)
              refine lv_iinc (v := (x3 + (1 : Int32))) (lv' := [(3, .int (x3 + (1 : Int32))), (2, .int w14), (0, .ref (a 0)), (1, .int x1)]) hx hb dX6_weightOf_66 hl (k := 3) rfl rfl (by decide) rfl (fun ls hl => ?_)
              refine lv_goto (tgt := 4) hx hb dX6_weightOf_69 (by decide) ?_
              exact ih x1 w14 (x3 + (1 : Int32)) _ _ _ V (lv_sub hl [2, 3, 1, 0] rfl) h
            · have h := if_f c13 h
              refine lv_iconst (v := (1 : Int32)) hx hb dX6_weightOf_58 (by decide) ?_
              refine lv_goto (tgt := 63) hx hb dX6_weightOf_59 (by decide) ?_
              refine lv_iadd hx hb dX6_weightOf_63 ?_
              refine lv_iadd hx hb dX6_weightOf_64 ?_
              obtain ⟨w15, ew15, h⟩ := gl_e h
              refine gw_nmi ew15 ?_
              refine lv_istore_n (lv' := [(2, .int w15), (0, .ref (a 0)), (1, .int x1), (3, .int x3)]) hx hb dX6_weightOf_65 rfl hl (by decide) rfl (fun ls hl => ?_)
              refine lv_iinc (v := (x3 + (1 : Int32))) (lv' := [(3, .int (x3 + (1 : Int32))), (2, .int w15), (0, .ref (a 0)), (1, .int x1)]) hx hb dX6_weightOf_66 hl (k := 3) rfl rfl (by decide) rfl (fun ls hl => ?_)
              refine lv_goto (tgt := 4) hx hb dX6_weightOf_69 (by decide) ?_
              exact ih x1 w15 (x3 + (1 : Int32)) _ _ _ V (lv_sub hl [2, 3, 1, 0] rfl) h
set_option maxHeartbeats 4000000 in
theorem mX6_weightOf {l : Launch} {D : va_G} {a : Nat → Nat} {cA : ClassId} {sz : Nat} {u : g_S} {p1 : Int32} {rv : Int32} (h : fm_weightOf u p1 = some rv) : gw_Mi D vwCl [(cA, .int)] (mdA a) gY (mdW a cA) l yX6_weightOf wxX6_weightOf rmX6_weightOf sz u [.ref (a 0), .int p1] rv u := by
  refine gw_Mof (Qc := fun z => va_Qi (gw_Pi rv u) (gw_W D vwCl (mdW a cA)) (rg (mdA a) z)) (cc := cX6_weightOf) (maxL := 4) (ret := (some .int)) (by decide) rfl ?_
  intro p e s m below meth c B C V
  obtain ⟨hx, hb, hml, hown, hts, hr, hlk⟩ := id B
  have hl := lv_entry ([.ref (a 0), .int p1]) (n := 4) (Nat.le_of_ble_eq_true rfl)
  rw [lg_entry_eq]
  generalize (lg_sl ([.ref (a 0), .int p1]) ++ List.replicate (4 - (lg_sl ([.ref (a 0), .int p1])).length) Slot.unset).toArray = ls at hl ⊢
  have hl : lv_has ls 4 [(0, .ref (a 0)), (1, .int p1)] := hl
  unfold fm_weightOf at h
  refine lv_iconst (v := (0 : Int32)) hx hb dX6_weightOf_0 (by decide) ?_
  refine lv_istore_n (lv' := [(2, .int (0 : Int32)), (0, .ref (a 0)), (1, .int p1)]) hx hb dX6_weightOf_1 rfl hl (by decide) rfl (fun ls hl => ?_)
  refine lv_iconst (v := (0 : Int32)) hx hb dX6_weightOf_2 (by decide) ?_
  refine lv_istore_n (lv' := [(3, .int (0 : Int32)), (2, .int (0 : Int32)), (0, .ref (a 0)), (1, .int p1)]) hx hb dX6_weightOf_3 rfl hl (by decide) rfl (fun ls hl => ?_)
  exact LX6_weightOf_4 B C 200 p1 (0 : Int32) (0 : Int32) _ _ _ V (lv_sub hl [2, 3, 1, 0] rfl) h
set_option maxHeartbeats 4000000 in
theorem LX6_placeOf_2 {p : Program} {l : Launch} {e : Env} {s : State} {m : MethodId} {below : List Frame} {meth : Method} {c : Code} {args : Array Value} {D : va_G} {a : Nat → Nat} {cA : ClassId} (B : gw_B p s m args meth c cX6_placeOf 3 (some .int) RX6 gT) (C : gw_C D vwCl [(cA, .int)] (mdA a) gY s) {rv : Int32} {u : g_S} : ∀ (n : Nat) (x1 : Int32) (x2 : Int32) (H : Heap) (locs : List Loc) (ls : Array Slot), gw_V D vwCl (mdA a) (mdW a cA) s u H locs → lv_has ls 3 [(0, .ref (a 0)), (1, .int x1), (2, .int x2)] → fm_placeOf_2 u n x1 x2 = some rv → W p l e rmX6_placeOf s m args below meth c H locs 0 0 (gw_Ei D vwCl (mdA a) (mdW a cA) below args s rv u) (F0 m 2 ls []) := by
  obtain ⟨hx, hb, hml, hown, hts, hr, hlk⟩ := id B
  intro n
  induction n with
  | zero =>
    intro x1 x2 H locs ls V hl h
    cases h
  | succ n ih =>
    intro x1 x2 H locs ls V hl h
    rw [fm_placeOf_2_s] at h
    refine lv_iload_n hx hb dX6_placeOf_2 rfl (lv_at hl 2 rfl) ?_
    refine lv_aload_n hx hb dX6_placeOf_3 rfl (lv_at hl 0 rfl) ?_
    refine va_get (C := RX6) (T := TX6) (N := 24) (ci := 5) hx hb hts igX6 hown C.1 V.1 0 rfl rfl 8 (by decide) (hts _ kt_611) (fun _ h => h) rfl dX6_placeOf_4 ?_
    refine lv_icmp_ge (tgt := 50) hx hb dX6_placeOf_7 (by decide) (fun c1 => ?_) (fun c1 => ?_)
    · have h := if_t c1 h
      refine lv_iconst (v := (-1 : Int32)) hx hb dX6_placeOf_50 (by decide) ?_
      exact gw_reti hx hb hr rfl hlk V (Option.some.inj h) rfl dX6_placeOf_51
    · have h := if_f c1 h
      refine lv_aload_n hx hb dX6_placeOf_10 rfl (lv_at hl 0 rfl) ?_
      refine va_get (C := RX6) (T := TX6) (N := 24) (ci := 5) hx hb hts igX6 hown C.1 V.1 0 rfl rfl 15 (by decide) (hts _ kt_618) (fun _ h => h) rfl dX6_placeOf_11 ?_
      refine lv_iload_n hx hb dX6_placeOf_14 rfl (lv_at hl 2 rfl) ?_
      obtain ⟨i2, h⟩ := ck_e h
      refine va_iald hx hb C.1 V.1 13 0 rfl rfl i2 dX6_placeOf_15 ?_
      refine lv_iload_n hx hb dX6_placeOf_16 rfl (lv_at hl 1 rfl) ?_
      refine lv_icmp_ne (tgt := 44) hx hb dX6_placeOf_17 (by decide) (fun c3 => ?_) (fun c3 => ?_)
      · have h := if_t c3 h
        refine lv_iinc (v := (x2 + (1 : Int32))) (lv' := [(2, .int (x2 + (1 : Int32))), (0, .ref (a 0)), (1, .int x1)]) hx hb dX6_placeOf_44 hl (k := 2) rfl rfl (by decide) rfl (fun ls hl => ?_)
        refine lv_goto (tgt := 2) hx hb dX6_placeOf_47 (by decide) ?_
        exact ih x1 (x2 + (1 : Int32)) _ _ _ V (lv_sub hl [1, 2, 0] rfl) h
      · have h := if_nn c3 h
        refine lv_aload_n hx hb dX6_placeOf_20 rfl (lv_at hl 0 rfl) ?_
        refine lv_iload_n hx hb dX6_placeOf_21 rfl (lv_at hl 2 rfl) ?_
        obtain ⟨v4, hv4, h⟩ := bi_e h
        refine gw_ki V (va_runV (As := [.int x2]) (rest := []) ⟨hx, hb, hml, hown, hts⟩ (mX6_isHoax (D := D) (a := a) (cA := cA) (u := u) hv4) (cwV 1 hts gmdX6_121 rfl rfl rfl (by decide +kernel) ⟨Nat.le_of_ble_eq_true rfl, Nat.le_of_ble_eq_true rfl⟩) (gw_preV (q0 := 0) (ci := 5) gY_ok C V [.int x2] rfl rfl) rfl rfl hl.1 rfl (lv_room (Nat.le_of_ble_eq_true rfl)) dX6_placeOf_22 ⟨Nat.zero_le _, Nat.zero_le _⟩) (fun H locs V => ?_)
        refine lv_if_ne (tgt := 44) hx hb dX6_placeOf_25 (by decide) (fun c5 => ?_) (fun c5 => ?_)
        · have h := if_t c5 h
          refine lv_iinc (v := (x2 + (1 : Int32))) (lv' := [(2, .int (x2 + (1 : Int32))), (0, .ref (a 0)), (1, .int x1)]) hx hb dX6_placeOf_44 hl (k := 2) rfl rfl (by decide) rfl (fun ls hl => ?_)
          refine lv_goto (tgt := 2) hx hb dX6_placeOf_47 (by decide) ?_
          exact ih x1 (x2 + (1 : Int32)) _ _ _ V (lv_sub hl [1, 2, 0] rfl) h
        · have h := if_nn c5 h
          refine lv_aload_n hx hb dX6_placeOf_28 rfl (lv_at hl 0 rfl) ?_
          refine va_get (C := RX6) (T := TX6) (N := 24) (ci := 5) hx hb hts igX6 hown C.1 V.1 0 rfl rfl 12 (by decide) (hts _ kt_615) (fun _ h => h) rfl dX6_placeOf_29 ?_
          refine lv_iload_n hx hb dX6_placeOf_32 rfl (lv_at hl 2 rfl) ?_
          obtain ⟨i6, h⟩ := ck_e h
          refine va_iald hx hb C.1 V.1 10 0 rfl rfl i6 dX6_placeOf_33 ?_
          refine lv_if_lt (tgt := 44) hx hb dX6_placeOf_34 (by decide) (fun c7 => ?_) (fun c7 => ?_)
          · have h := if_t c7 h
            refine lv_iinc (v := (x2 + (1 : Int32))) (lv' := [(2, .int (x2 + (1 : Int32))), (0, .ref (a 0)), (1, .int x1)]) hx hb dX6_placeOf_44 hl (k := 2) rfl rfl (by decide) rfl (fun ls hl => ?_)
            refine lv_goto (tgt := 2) hx hb dX6_placeOf_47 (by decide) ?_
            exact ih x1 (x2 + (1 : Int32)) _ _ _ V (lv_sub hl [1, 2, 0] rfl) h
          · have h := if_f c7 h
            refine lv_aload_n hx hb dX6_placeOf_37 rfl (lv_at hl 0 rfl) ?_
            refine va_get (C := RX6) (T := TX6) (N := 24) (ci := 5) hx hb hts igX6 hown C.1 V.1 0 rfl rfl 12 (by decide) (hts _ kt_615) (fun _ h => h) rfl dX6_placeOf_38 ?_
            refine lv_iload_n hx hb dX6_placeOf_41 rfl (lv_at hl 2 rfl) ?_
            obtain ⟨i8, h⟩ := ck_e h
            refine va_iald hx hb C.1 V.1 10 0 rfl rfl i8 dX6_placeOf_42 ?_
            exact gw_reti hx hb hr rfl hlk V (Option.some.inj h) rfl dX6_placeOf_43
set_option maxHeartbeats 4000000 in
theorem mX6_placeOf {l : Launch} {D : va_G} {a : Nat → Nat} {cA : ClassId} {sz : Nat} {u : g_S} {p1 : Int32} {rv : Int32} (h : fm_placeOf u p1 = some rv) : gw_Mi D vwCl [(cA, .int)] (mdA a) gY (mdW a cA) l yX6_placeOf wxX6_placeOf rmX6_placeOf sz u [.ref (a 0), .int p1] rv u := by
  refine gw_Mof (Qc := fun z => va_Qi (gw_Pi rv u) (gw_W D vwCl (mdW a cA)) (rg (mdA a) z)) (cc := cX6_placeOf) (maxL := 3) (ret := (some .int)) (by decide) rfl ?_
  intro p e s m below meth c B C V
  obtain ⟨hx, hb, hml, hown, hts, hr, hlk⟩ := id B
  have hl := lv_entry ([.ref (a 0), .int p1]) (n := 3) (Nat.le_of_ble_eq_true rfl)
  rw [lg_entry_eq]
  generalize (lg_sl ([.ref (a 0), .int p1]) ++ List.replicate (3 - (lg_sl ([.ref (a 0), .int p1])).length) Slot.unset).toArray = ls at hl ⊢
  have hl : lv_has ls 3 [(0, .ref (a 0)), (1, .int p1)] := hl
  unfold fm_placeOf at h
  refine lv_iconst (v := (0 : Int32)) hx hb dX6_placeOf_0 (by decide) ?_
  refine lv_istore_n (lv' := [(2, .int (0 : Int32)), (0, .ref (a 0)), (1, .int p1)]) hx hb dX6_placeOf_1 rfl hl (by decide) rfl (fun ls hl => ?_)
  exact LX6_placeOf_2 B C 200 p1 (0 : Int32) _ _ _ V (lv_sub hl [1, 2, 0] rfl) h
set_option maxHeartbeats 4000000 in
theorem LX6_latestOf_4 {p : Program} {l : Launch} {e : Env} {s : State} {m : MethodId} {below : List Frame} {meth : Method} {c : Code} {args : Array Value} {D : va_G} {a : Nat → Nat} {cA : ClassId} (B : gw_B p s m args meth c cX6_latestOf 4 (some .int) RX6 gT) (C : gw_C D vwCl [(cA, .int)] (mdA a) gY s) {rv : Int32} {u : g_S} : ∀ (n : Nat) (x1 : Int32) (x2 : Int32) (x3 : Int32) (H : Heap) (locs : List Loc) (ls : Array Slot), gw_V D vwCl (mdA a) (mdW a cA) s u H locs → lv_has ls 4 [(0, .ref (a 0)), (1, .int x1), (2, .int x2), (3, .int x3)] → fm_latestOf_4 u n x1 x2 x3 = some rv → W p l e rmX6_latestOf s m args below meth c H locs 0 0 (gw_Ei D vwCl (mdA a) (mdW a cA) below args s rv u) (F0 m 4 ls []) := by
  obtain ⟨hx, hb, hml, hown, hts, hr, hlk⟩ := id B
  intro n
  induction n with
  | zero =>
    intro x1 x2 x3 H locs ls V hl h
    cases h
  | succ n ih =>
    intro x1 x2 x3 H locs ls V hl h
    rw [fm_latestOf_4_s] at h
    refine lv_iload_n hx hb dX6_latestOf_4 rfl (lv_at hl 3 rfl) ?_
    refine lv_aload_n hx hb dX6_latestOf_5 rfl (lv_at hl 0 rfl) ?_
    refine va_get (C := RX6) (T := TX6) (N := 24) (ci := 5) hx hb hts igX6 hown C.1 V.1 0 rfl rfl 8 (by decide) (hts _ kt_611) (fun _ h => h) rfl dX6_latestOf_6 ?_
    refine lv_icmp_ge (tgt := 39) hx hb dX6_latestOf_9 (by decide) (fun c1 => ?_) (fun c1 => ?_)
    · have h := if_t c1 h
      refine lv_iload_n hx hb dX6_latestOf_39 rfl (lv_at hl 2 rfl) ?_
      exact gw_reti hx hb hr rfl hlk V (Option.some.inj h) rfl dX6_latestOf_40
    · have h := if_f c1 h
      refine lv_aload_n hx hb dX6_latestOf_12 rfl (lv_at hl 0 rfl) ?_
      refine va_get (C := RX6) (T := TX6) (N := 24) (ci := 5) hx hb hts igX6 hown C.1 V.1 0 rfl rfl 15 (by decide) (hts _ kt_618) (fun _ h => h) rfl dX6_latestOf_13 ?_
      refine lv_iload_n hx hb dX6_latestOf_16 rfl (lv_at hl 3 rfl) ?_
      obtain ⟨i2, h⟩ := ck_e h
      refine va_iald hx hb C.1 V.1 13 0 rfl rfl i2 dX6_latestOf_17 ?_
      refine lv_iload_n hx hb dX6_latestOf_18 rfl (lv_at hl 1 rfl) ?_
      refine lv_icmp_ne (tgt := 31) hx hb dX6_latestOf_19 (by decide) (fun c3 => ?_) (fun c3 => ?_)
      · have h := if_t c3 h
        refine lv_iload_n hx hb dX6_latestOf_31 rfl (lv_at hl 2 rfl) ?_
        refine lv_istore_n (lv' := [(2, .int x2), (0, .ref (a 0)), (1, .int x1), (3, .int x3)]) hx hb dX6_latestOf_32 rfl hl (by decide) rfl (fun ls hl => ?_)
        refine lv_iinc (v := (x3 + (1 : Int32))) (lv' := [(3, .int (x3 + (1 : Int32))), (2, .int x2), (0, .ref (a 0)), (1, .int x1)]) hx hb dX6_latestOf_33 hl (k := 3) rfl rfl (by decide) rfl (fun ls hl => ?_)
        refine lv_goto (tgt := 4) hx hb dX6_latestOf_36 (by decide) ?_
        exact ih x1 x2 (x3 + (1 : Int32)) _ _ _ V (lv_sub hl [2, 3, 1, 0] rfl) h
      · have h := if_nn c3 h
        refine lv_aload_n hx hb dX6_latestOf_22 rfl (lv_at hl 0 rfl) ?_
        refine va_get (C := RX6) (T := TX6) (N := 24) (ci := 5) hx hb hts igX6 hown C.1 V.1 0 rfl rfl 14 (by decide) (hts _ kt_617) (fun _ h => h) rfl dX6_latestOf_23 ?_
        refine lv_iload_n hx hb dX6_latestOf_26 rfl (lv_at hl 3 rfl) ?_
        obtain ⟨i4, h⟩ := ck_e h
        refine va_iald hx hb C.1 V.1 12 0 rfl rfl i4 dX6_latestOf_27 ?_
        refine lv_goto (tgt := 32) hx hb dX6_latestOf_28 (by decide) ?_
        obtain ⟨w5, ew5, h⟩ := gl_e h
        refine gw_nmi ew5 ?_
        refine lv_istore_n (lv' := [(2, .int w5), (0, .ref (a 0)), (1, .int x1), (3, .int x3)]) hx hb dX6_latestOf_32 rfl hl (by decide) rfl (fun ls hl => ?_)
        refine lv_iinc (v := (x3 + (1 : Int32))) (lv' := [(3, .int (x3 + (1 : Int32))), (2, .int w5), (0, .ref (a 0)), (1, .int x1)]) hx hb dX6_latestOf_33 hl (k := 3) rfl rfl (by decide) rfl (fun ls hl => ?_)
        refine lv_goto (tgt := 4) hx hb dX6_latestOf_36 (by decide) ?_
        exact ih x1 w5 (x3 + (1 : Int32)) _ _ _ V (lv_sub hl [2, 3, 1, 0] rfl) h
set_option maxHeartbeats 4000000 in
theorem mX6_latestOf {l : Launch} {D : va_G} {a : Nat → Nat} {cA : ClassId} {sz : Nat} {u : g_S} {p1 : Int32} {rv : Int32} (h : fm_latestOf u p1 = some rv) : gw_Mi D vwCl [(cA, .int)] (mdA a) gY (mdW a cA) l yX6_latestOf wxX6_latestOf rmX6_latestOf sz u [.ref (a 0), .int p1] rv u := by
  refine gw_Mof (Qc := fun z => va_Qi (gw_Pi rv u) (gw_W D vwCl (mdW a cA)) (rg (mdA a) z)) (cc := cX6_latestOf) (maxL := 4) (ret := (some .int)) (by decide) rfl ?_
  intro p e s m below meth c B C V
  obtain ⟨hx, hb, hml, hown, hts, hr, hlk⟩ := id B
  have hl := lv_entry ([.ref (a 0), .int p1]) (n := 4) (Nat.le_of_ble_eq_true rfl)
  rw [lg_entry_eq]
  generalize (lg_sl ([.ref (a 0), .int p1]) ++ List.replicate (4 - (lg_sl ([.ref (a 0), .int p1])).length) Slot.unset).toArray = ls at hl ⊢
  have hl : lv_has ls 4 [(0, .ref (a 0)), (1, .int p1)] := hl
  unfold fm_latestOf at h
  refine lv_iconst (v := (-1 : Int32)) hx hb dX6_latestOf_0 (by decide) ?_
  refine lv_istore_n (lv' := [(2, .int (-1 : Int32)), (0, .ref (a 0)), (1, .int p1)]) hx hb dX6_latestOf_1 rfl hl (by decide) rfl (fun ls hl => ?_)
  refine lv_iconst (v := (0 : Int32)) hx hb dX6_latestOf_2 (by decide) ?_
  refine lv_istore_n (lv' := [(3, .int (0 : Int32)), (2, .int (-1 : Int32)), (0, .ref (a 0)), (1, .int p1)]) hx hb dX6_latestOf_3 rfl hl (by decide) rfl (fun ls hl => ?_)
  exact LX6_latestOf_4 B C 200 p1 (-1 : Int32) (0 : Int32) _ _ _ V (lv_sub hl [2, 3, 1, 0] rfl) h
