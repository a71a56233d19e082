set_option maxHeartbeats 4000000 in
theorem LX4_greatestShare_21 {p : Program} {l : Launch} {e : Env} {s : State} {m : MethodId} {below : List Frame} {meth : Method} {c : Code} {args : Array Value} {D : va_G} {a : Nat → Nat} {cA : ClassId} (B : gw_B p s m args meth c cX4_greatestShare 9 (some .int) RX4 gT) (C : gw_C D vwCl [(cA, .int)] (cjA a) gX s) {rv : Int32} {u : g_S} : ∀ (n : Nat) (x1 : Int32) (x2 : Int32) (x3 : Int32) (x4 : Int32) (x5 : Int32) (x6 : Int32) (H : Heap) (locs : List Loc) (ls : Array Slot), gw_V D vwCl (cjA a) (cjW a cA) s u H locs → lv_has ls 9 [(0, .ref (a 0)), (1, .int x1), (2, .int x2), (3, .int x3), (4, .int x4), (5, .int x5), (6, .int x6)] → fcJ_greatestShare_21 u n x1 x2 x3 x4 x5 x6 = some rv → W p l e rmX4_greatestShare s m args below meth c H locs 0 0 (gw_Ei D vwCl (cjA a) (cjW a cA) below args s rv u) (F0 m 21 ls []) := by
  obtain ⟨hx, hb, hml, hown, hts, hr, hlk⟩ := id B
  intro n
  induction n with
  | zero =>
    intro x1 x2 x3 x4 x5 x6 H locs ls V hl h
    cases h
  | succ n ih =>
    intro x1 x2 x3 x4 x5 x6 H locs ls V hl h
    rw [fcJ_greatestShare_21_s] at h
    refine lv_iload hx hb dX4_greatestShare_21 (lv_at hl 6 rfl) ?_
    refine lv_aload_n hx hb dX4_greatestShare_23 rfl (lv_at hl 0 rfl) ?_
    refine va_get (C := RX4) (T := TX4) (N := 4) (ci := 4) hx hb hts igX4 hown C.1 V.1 0 rfl rfl 2 (by decide) (hts _ kt_158) (fun _ h => h) rfl dX4_greatestShare_24 ?_
    refine va_get (C := RX0) (T := TX0) (N := 11) (ci := 0) hx hb hts igX0 hown C.1 V.1 3 rfl rfl 0 (by decide) (hts _ kt_77) (fun _ h => h) rfl dX4_greatestShare_27 ?_
    refine lv_icmp_ge (tgt := 149) hx hb dX4_greatestShare_30 (by decide) (fun c1 => ?_) (fun c1 => ?_)
    · have h := if_t c1 h
      refine lv_iload_n hx hb dX4_greatestShare_149 rfl (lv_at hl 3 rfl) ?_
      exact gw_reti hx hb hr rfl hlk V (Option.some.inj h) rfl dX4_greatestShare_150
    · have h := if_f c1 h
      refine lv_aload_n hx hb dX4_greatestShare_33 rfl (lv_at hl 0 rfl) ?_
      refine lv_iload hx hb dX4_greatestShare_34 (lv_at hl 6 rfl) ?_
      refine lv_iload_n hx hb dX4_greatestShare_36 rfl (lv_at hl 1 rfl) ?_
      obtain ⟨v2, hv2, h⟩ := bi_e h
      refine gw_ki V (va_runV (As := [.int x6, .int x1]) (rest := []) ⟨hx, hb, hml, hown, hts⟩ (mX4_isCandidate (D := D) (a := a) (cA := cA) (u := u) hv2) (cwV 2 hts gcjX4_255 rfl rfl rfl (by decide +kernel) ⟨Nat.le_of_ble_eq_true rfl, Nat.le_of_ble_eq_true rfl⟩) (gw_preV (q0 := 0) (ci := 4) gX_ok C V [.int x6, .int x1] rfl rfl) rfl rfl hl.1 rfl (lv_room (Nat.le_of_ble_eq_true rfl)) dX4_greatestShare_37 ⟨Nat.zero_le _, Nat.zero_le _⟩) (fun H locs V => ?_)
      refine lv_if_eq (tgt := 143) hx hb dX4_greatestShare_40 (by decide) (fun c3 => ?_) (fun c3 => ?_)
      · have h := if_t c3 h
        refine lv_iinc (v := (x6 + (1 : Int32))) (lv' := [(6, .int (x6 + (1 : Int32))), (0, .ref (a 0)), (1, .int x1), (2, .int x2), (3, .int x3), (4, .int x4), (5, .int x5)]) hx hb dX4_greatestShare_143 hl (k := 6) rfl rfl (by decide) rfl (fun ls hl => ?_)
        refine lv_goto (tgt := 21) hx hb dX4_greatestShare_146 (by decide) ?_
        exact ih x1 x2 x3 x4 x5 (x6 + (1 : Int32)) _ _ _ V (lv_sub hl [1, 2, 3, 4, 5, 6, 0] rfl) h
      · have h := if_f c3 h
        refine lv_aload_n hx hb dX4_greatestShare_43 rfl (lv_at hl 0 rfl) ?_
        refine lv_iload hx hb dX4_greatestShare_44 (lv_at hl 6 rfl) ?_
        refine lv_iload_n hx hb dX4_greatestShare_46 rfl (lv_at hl 1 rfl) ?_
        obtain ⟨v4, hv4, h⟩ := bi_e h
        refine gw_ki V (va_runV (As := [.int x6, .int x1]) (rest := []) ⟨hx, hb, hml, hown, hts⟩ (mX4_agreement (D := D) (a := a) (cA := cA) (u := u) hv4) (cwV 2 hts gcjX4_167 rfl rfl rfl (by decide +kernel) ⟨Nat.le_of_ble_eq_true rfl, Nat.le_of_ble_eq_true rfl⟩) (gw_preV (q0 := 0) (ci := 4) gX_ok C V [.int x6, .int x1] rfl rfl) rfl rfl hl.1 rfl (lv_room (Nat.le_of_ble_eq_true rfl)) dX4_greatestShare_47 ⟨Nat.zero_le _, Nat.zero_le _⟩) (fun H locs V => ?_)
        refine lv_iconst (v := (2 : Int32)) hx hb dX4_greatestShare_50 (by decide) ?_
        refine lv_icmp_ne (tgt := 143) hx hb dX4_greatestShare_51 (by decide) (fun c5 => ?_) (fun c5 => ?_)
        · have h := if_t c5 h
          refine lv_iinc (v := (x6 + (1 : Int32))) (lv' := [(6, .int (x6 + (1 : Int32))), (0, .ref (a 0)), (1, .int x1), (2, .int x2), (3, .int x3), (4, .int x4), (5, .int x5)]) hx hb dX4_greatestShare_143 hl (k := 6) rfl rfl (by decide) rfl (fun ls hl => ?_)
          refine lv_goto (tgt := 21) hx hb dX4_greatestShare_146 (by decide) ?_
          exact ih x1 x2 x3 x4 x5 (x6 + (1 : Int32)) _ _ _ V (lv_sub hl [1, 2, 3, 4, 5, 6, 0] rfl) h
        · have h := if_nn c5 h
          refine lv_aload_n hx hb dX4_greatestShare_54 rfl (lv_at hl 0 rfl) ?_
          refine va_get (C := RX4) (T := TX4) (N := 4) (ci := 4) hx hb hts igX4 hown C.1 V.1 0 rfl rfl 0 (by decide) (hts _ kt_156) (fun _ h => h) rfl dX4_greatestShare_55 ?_
          refine lv_iload_n hx hb dX4_greatestShare_58 rfl (lv_at hl 2 rfl) ?_
          refine lv_aload_n hx hb dX4_greatestShare_59 rfl (lv_at hl 0 rfl) ?_
          refine va_get (C := RX4) (T := TX4) (N := 4) (ci := 4) hx hb hts igX4 hown C.1 V.1 0 rfl rfl 2 (by decide) (hts _ kt_158) (fun _ h => h) rfl dX4_greatestShare_60 ?_
          refine va_get (C := RX0) (T := TX0) (N := 11) (ci := 0) hx hb hts igX0 hown C.1 V.1 3 rfl rfl 4 (by decide) (hts _ kt_85) (fun _ h => h) rfl dX4_greatestShare_63 ?_
          refine lv_iload hx hb dX4_greatestShare_66 (lv_at hl 6 rfl) ?_
          obtain ⟨i6, h⟩ := ck_e h
          refine va_iald hx hb C.1 V.1 15 0 rfl rfl i6 dX4_greatestShare_68 ?_
          refine lv_aload_n hx hb dX4_greatestShare_69 rfl (lv_at hl 0 rfl) ?_
          refine va_get (C := RX4) (T := TX4) (N := 4) (ci := 4) hx hb hts igX4 hown C.1 V.1 0 rfl rfl 2 (by decide) (hts _ kt_158) (fun _ h => h) rfl dX4_greatestShare_70 ?_
          refine va_get (C := RX0) (T := TX0) (N := 11) (ci := 0) hx hb hts igX0 hown C.1 V.1 3 rfl rfl 4 (by decide) (hts _ kt_85) (fun _ h => h) rfl dX4_greatestShare_73 ?_
          refine lv_iload_n hx hb dX4_greatestShare_76 rfl (lv_at hl 1 rfl) ?_
          obtain ⟨i7, h⟩ := ck_e h
          refine va_iald hx hb C.1 V.1 15 0 rfl rfl i7 dX4_greatestShare_77 ?_
          refine lv_iand hx hb dX4_greatestShare_78 ?_
          obtain ⟨v8, hv8, h⟩ := bi_e h
          refine gw_ki V (va_runV (As := [.int x2, .int ((u.2 10 x6.toNatClampNeg) &&& (u.2 10 x1.toNatClampNeg))]) (rest := []) ⟨hx, hb, hml, hown, hts⟩ (mX3_weigh (D := D) (a := a) (cA := cA) (u := u) hv8) (cwV 2 hts gcjX4_157 rfl rfl rfl (by decide +kernel) ⟨Nat.le_of_ble_eq_true rfl, Nat.le_of_ble_eq_true rfl⟩) (gw_preV (q0 := 1) (ci := 3) gX_ok C V [.int x2, .int ((u.2 10 x6.toNatClampNeg) &&& (u.2 10 x1.toNatClampNeg))] rfl rfl) rfl rfl hl.1 rfl (lv_room (Nat.le_of_ble_eq_true rfl)) dX4_greatestShare_79 ⟨Nat.zero_le _, Nat.zero_le _⟩) (fun H locs V => ?_)
          refine lv_istore (lv' := [(7, .int v8), (0, .ref (a 0)), (1, .int x1), (2, .int x2), (3, .int x3), (4, .int x4), (5, .int x5), (6, .int x6)]) hx hb dX4_greatestShare_82 hl (by decide) rfl (fun ls hl => ?_)
          refine lv_aload_n hx hb dX4_greatestShare_84 rfl (lv_at hl 1 rfl) ?_
          refine va_get (C := RX4) (T := TX4) (N := 4) (ci := 4) hx hb hts igX4 hown C.1 V.1 0 rfl rfl 0 (by decide) (hts _ kt_156) (fun _ h => h) rfl dX4_greatestShare_85 ?_
          refine lv_iload_n hx hb dX4_greatestShare_88 rfl (lv_at hl 3 rfl) ?_
          refine lv_aload_n hx hb dX4_greatestShare_89 rfl (lv_at hl 1 rfl) ?_
          refine va_get (C := RX4) (T := TX4) (N := 4) (ci := 4) hx hb hts igX4 hown C.1 V.1 0 rfl rfl 2 (by decide) (hts _ kt_158) (fun _ h => h) rfl dX4_greatestShare_90 ?_
          refine va_get (C := RX0) (T := TX0) (N := 11) (ci := 0) hx hb hts igX0 hown C.1 V.1 3 rfl rfl 4 (by decide) (hts _ kt_85) (fun _ h => h) rfl dX4_greatestShare_93 ?_
          refine lv_iload hx hb dX4_greatestShare_96 (lv_at hl 7 rfl) ?_
          obtain ⟨i9, h⟩ := ck_e h
          refine va_iald hx hb C.1 V.1 15 0 rfl rfl i9 dX4_greatestShare_98 ?_
          refine lv_aload_n hx hb dX4_greatestShare_99 rfl (lv_at hl 1 rfl) ?_
          refine va_get (C := RX4) (T := TX4) (N := 4) (ci := 4) hx hb hts igX4 hown C.1 V.1 0 rfl rfl 2 (by decide) (hts _ kt_158) (fun _ h => h) rfl dX4_greatestShare_100 ?_
          refine va_get (C := RX0) (T := TX0) (N := 11) (ci := 0) hx hb hts igX0 hown C.1 V.1 3 rfl rfl 4 (by decide) (hts _ kt_85) (fun _ h => h) rfl dX4_greatestShare_103 ?_
          refine lv_iload_n hx hb dX4_greatestShare_106 rfl (lv_at hl 2 rfl) ?_
          obtain ⟨i10, h⟩ := ck_e h
          refine va_iald hx hb C.1 V.1 15 0 rfl rfl i10 dX4_greatestShare_107 ?_
          refine lv_ior hx hb dX4_greatestShare_108 ?_
          obtain ⟨v11, hv11, h⟩ := bi_e h
          refine gw_ki V (va_runV (As := [.int x2, .int ((u.2 10 x6.toNatClampNeg) ||| (u.2 10 x1.toNatClampNeg))]) (rest := []) ⟨hx, hb, hml, hown, hts⟩ (mX3_weigh (D := D) (a := a) (cA := cA) (u := u) hv11) (cwV 2 hts gcjX4_157 rfl rfl rfl (by decide +kernel) ⟨Nat.le_of_ble_eq_true rfl, Nat.le_of_ble_eq_true rfl⟩) (gw_preV (q0 := 1) (ci := 3) gX_ok C V [.int x2, .int ((u.2 10 x6.toNatClampNeg) ||| (u.2 10 x1.toNatClampNeg))] rfl rfl) rfl rfl hl.1 rfl (lv_room (Nat.le_of_ble_eq_true rfl)) dX4_greatestShare_109 ⟨Nat.zero_le _, Nat.zero_le _⟩) (fun H locs V => ?_)
          refine lv_istore (lv' := [(8, .int v11), (7, .int v8), (0, .ref (a 0)), (1, .int x1), (2, .int x2), (3, .int x3), (4, .int x4), (5, .int x5), (6, .int x6)]) hx hb dX4_greatestShare_112 hl (by decide) rfl (fun ls hl => ?_)
          refine lv_iload_n hx hb dX4_greatestShare_114 rfl (lv_at hl 5 rfl) ?_
          refine lv_iconst (v := (-1 : Int32)) hx hb dX4_greatestShare_115 (by decide) ?_
          refine lv_icmp_eq (tgt := 132) hx hb dX4_greatestShare_116 (by decide) (fun c12 => ?_) (fun c12 => ?_)
          · have h := if_t c12 h
            refine lv_iload hx hb dX4_greatestShare_132 (lv_at hl 8 rfl) ?_
            refine lv_istore_n (lv' := [(3, .int x6), (8, .int v11), (7, .int v8), (0, .ref (a 0)), (1, .int x1), (2, .int x2), (4, .int x4), (5, .int x5), (6, .int x6)]) hx hb dX4_greatestShare_134 rfl hl (by decide) rfl (fun ls hl => ?_)
            refine lv_iload hx hb dX4_greatestShare_135 (lv_at hl 2 rfl) ?_
            refine lv_istore (lv' := [(4, .int v8), (3, .int x6), (8, .int v11), (7, .int v8), (0, .ref (a 0)), (1, .int x1), (2, .int x2), (5, .int x5), (6, .int x6)]) hx hb dX4_greatestShare_137 hl (by decide) rfl (fun ls hl => ?_)
            refine lv_iload hx hb dX4_greatestShare_139 (lv_at hl 2 rfl) ?_
            refine lv_istore (lv' := [(5, .int v11), (4, .int v8), (3, .int x6), (8, .int v11), (7, .int v8), (0, .ref (a 0)), (1, .int x1), (2, .int x2), (6, .int x6)]) hx hb dX4_greatestShare_141 hl (by decide) rfl (fun ls hl => ?_)
            refine lv_iinc (v := (x6 + (1 : Int32))) (lv' := [(6, .int (x6 + (1 : Int32))), (5, .int v11), (4, .int v8), (3, .int x6), (8, .int v11), (7, .int v8), (0, .ref (a 0)), (1, .int x1), (2, .int x2)]) hx hb dX4_greatestShare_143 hl (k := 8) rfl rfl (by decide) rfl (fun ls hl => ?_)
            refine lv_goto (tgt := 21) hx hb dX4_greatestShare_146 (by decide) ?_
            exact ih x1 x2 x6 v8 v11 (x6 + (1 : Int32)) _ _ _ V (lv_sub hl [6, 7, 8, 3, 2, 1, 0] rfl) h
          · have h := if_f c12 h
            refine lv_iload hx hb dX4_greatestShare_119 (lv_at hl 1 rfl) ?_
            refine lv_iload hx hb dX4_greatestShare_121 (lv_at hl 7 rfl) ?_
            refine lv_imul hx hb dX4_greatestShare_123 ?_
            refine lv_iload hx hb dX4_greatestShare_124 (lv_at hl 6 rfl) ?_
            refine lv_iload hx hb dX4_greatestShare_126 (lv_at hl 0 rfl) ?_
            refine lv_imul hx hb dX4_greatestShare_128 ?_
            refine lv_icmp_le (tgt := 143) hx hb dX4_greatestShare_129 (by decide) (fun c13 => ?_) (fun c13 => ?_)
            · have h := if_t c13 h
              refine lv_iinc (v := (x6 + (1 : Int32))) (lv' := [(6, .int (x6 + (1 : Int32))), (8, .int v11), (7, .int v8), (0, .ref (a 0)), (1, .int x1), (2, .int x2), (3, .int x3), (4, .int x4), (5, .int x5)]) hx hb dX4_greatestShare_143 hl (k := 8) rfl rfl (by decide) rfl (fun ls hl => ?_)
              refine lv_goto (tgt := 21) hx hb dX4_greatestShare_146 (by decide) ?_
              exact ih x1 x2 x3 x4 x5 (x6 + (1 : Int32)) _ _ _ V (lv_sub hl [3, 4, 5, 6, 7, 8, 0] rfl) h
            · have h := if_f c13 h
              refine lv_iload hx hb dX4_greatestShare_132 (lv_at hl 8 rfl) ?_
              refine lv_istore_n (lv' := [(3, .int x6), (8, .int v11), (7, .int v8), (0, .ref (a 0)), (1, .int x1), (2, .int x2), (4, .int x4), (5, .int x5), (6, .int x6)]) hx hb dX4_greatestShare_134 rfl hl (by decide) rfl (fun ls hl => ?_)
              refine lv_iload hx hb dX4_greatestShare_135 (lv_at hl 2 rfl) ?_
              refine lv_istore (lv' := [(4, .int v8), (3, .int x6), (8, .int v11), (7, .int v8), (0, .ref (a 0)), (1, .int x1), (2, .int x2), (5, .int x5), (6, .int x6)]) hx hb dX4_greatestShare_137 hl (by decide) rfl (fun ls hl => ?_)
              refine lv_iload hx hb dX4_greatestShare_139 (lv_at hl 2 rfl) ?_
              refine lv_istore (lv' := [(5, .int v11), (4, .int v8), (3, .int x6), (8, .int v11), (7, .int v8), (0, .ref (a 0)), (1, .int x1), (2, .int x2), (6, .int x6)]) hx hb dX4_greatestShare_141 hl (by decide) rfl (fun ls hl => ?_)
              refine lv_iinc (v := (x6 + (1 : Int32))) (lv' := [(6, .int (x6 + (1 : Int32))), (5, .int v11), (4, .int v8), (3, .int x6), (8, .int v11), (7, .int v8), (0, .ref (a 0)), (1, .int x1), (2, .int x2)]) hx hb dX4_greatestShare_143 hl (k := 8) rfl rfl (by decide) rfl (fun ls hl => ?_)
              refine lv_goto (tgt := 21) hx hb dX4_greatestShare_146 (by decide) ?_
              exact ih x1 x2 x6 v8 v11 (x6 + (1 : Int32)) _ _ _ V (lv_sub hl [6, 7, 8, 3, 2, 1, 0] rfl) h
set_option maxHeartbeats 4000000 in
theorem mX4_greatestShare {l : Launch} {D : va_G} {a : Nat → Nat} {cA : ClassId} {sz : Nat} {u : g_S} {p1 : Int32} {rv : Int32} (h : fcJ_greatestShare u p1 = some rv) : gw_Mi D vwCl [(cA, .int)] (cjA a) gX (cjW a cA) l yX4_greatestShare wxX4_greatestShare rmX4_greatestShare sz u [.ref (a 0), .int p1] rv u := by
  refine gw_Mof (Qc := fun z => va_Qi (gw_Pi rv u) (gw_W D vwCl (cjW a cA)) (rg (cjA a) z)) (cc := cX4_greatestShare) (maxL := 9) (ret := (some .int)) (by decide) rfl ?_
  intro p e s m below meth c B C V
  obtain ⟨hx, hb, hml, hown, hts, hr, hlk⟩ := id B
  have hl := lv_entry ([.ref (a 0), .int p1]) (n := 9) (Nat.le_of_ble_eq_true rfl)
  rw [lg_entry_eq]
  generalize (lg_sl ([.ref (a 0), .int p1]) ++ List.replicate (9 - (lg_sl ([.ref (a 0), .int p1])).length) Slot.unset).toArray = ls at hl ⊢
  have hl : lv_has ls 9 [(0, .ref (a 0)), (1, .int p1)] := hl
  unfold fcJ_greatestShare at h
  refine lv_aload_n hx hb dX4_greatestShare_0 rfl (lv_at hl 0 rfl) ?_
  refine va_get (C := RX4) (T := TX4) (N := 4) (ci := 4) hx hb hts igX4 hown C.1 V.1 0 rfl rfl 2 (by decide) (hts _ kt_158) (fun _ h => h) rfl dX4_greatestShare_1 ?_
  refine va_get (C := RX0) (T := TX0) (N := 11) (ci := 0) hx hb hts igX0 hown C.1 V.1 3 rfl rfl 2 (by decide) (hts _ kt_81) (fun _ h => h) rfl dX4_greatestShare_4 ?_
  refine lv_iload_n hx hb dX4_greatestShare_7 rfl (lv_at hl 1 rfl) ?_
  obtain ⟨i1, h⟩ := ck_e h
  refine va_iald hx hb C.1 V.1 13 0 rfl rfl i1 dX4_greatestShare_8 ?_
  obtain ⟨w2, ew2, h⟩ := gl_e h
  refine gw_nmi ew2 ?_
  refine lv_istore_n (lv' := [(2, .int w2), (0, .ref (a 0)), (1, .int p1)]) hx hb dX4_greatestShare_9 rfl hl (by decide) rfl (fun ls hl => ?_)
  refine lv_iconst (v := (-1 : Int32)) hx hb dX4_greatestShare_10 (by decide) ?_
  refine lv_istore_n (lv' := [(3, .int (-1 : Int32)), (2, .int w2), (0, .ref (a 0)), (1, .int p1)]) hx hb dX4_greatestShare_11 rfl hl (by decide) rfl (fun ls hl => ?_)
  refine lv_iconst (v := (0 : Int32)) hx hb dX4_greatestShare_12 (by decide) ?_
  refine lv_istore (lv' := [(4, .int (0 : Int32)), (3, .int (-1 : Int32)), (2, .int w2), (0, .ref (a 0)), (1, .int p1)]) hx hb dX4_greatestShare_13 hl (by decide) rfl (fun ls hl => ?_)
  refine lv_iconst (v := (1 : Int32)) hx hb dX4_greatestShare_15 (by decide) ?_
  refine lv_istore (lv' := [(5, .int (1 : Int32)), (4, .int (0 : Int32)), (3, .int (-1 : Int32)), (2, .int w2), (0, .ref (a 0)), (1, .int p1)]) hx hb dX4_greatestShare_16 hl (by decide) rfl (fun ls hl => ?_)
  refine lv_iconst (v := (0 : Int32)) hx hb dX4_greatestShare_18 (by decide) ?_
  refine lv_istore (lv' := [(6, .int (0 : Int32)), (5, .int (1 : Int32)), (4, .int (0 : Int32)), (3, .int (-1 : Int32)), (2, .int w2), (0, .ref (a 0)), (1, .int p1)]) hx hb dX4_greatestShare_19 hl (by decide) rfl (fun ls hl => ?_)
  exact LX4_greatestShare_21 B C 200 p1 w2 (-1 : Int32) (0 : Int32) (1 : Int32) (0 : Int32) _ _ _ V (lv_sub hl [5, 6, 4, 3, 2, 1, 0] rfl) h
set_option maxHeartbeats 4000000 in
theorem mX4_seekReason {l : Launch} {D : va_G} {a : Nat → Nat} {cA : ClassId} {sz : Nat} {u : g_S} {p1 : Int32} {rv : g_S} (h : fcJ_seekReason u p1 = some rv) : gw_Mv D vwCl [(cA, .int)] (cjA a) gX (cjW a cA) l yX4_seekReason wxX4_seekReason rmX4_seekReason sz u [.ref (a 0), .int p1] rv := by
  refine gw_Mof (Qc := fun z => va_Qv (gw_Pv rv) (gw_W D vwCl (cjW a cA)) (rg (cjA a) z)) (cc := cX4_seekReason) (maxL := 2) (ret := none) (by decide) rfl ?_
  intro p e s m below meth c B C V
  obtain ⟨hx, hb, hml, hown, hts, hr, hlk⟩ := id B
  have hl := lv_entry ([.ref (a 0), .int p1]) (n := 2) (Nat.le_of_ble_eq_true rfl)
  rw [lg_entry_eq]
  generalize (lg_sl ([.ref (a 0), .int p1]) ++ List.replicate (2 - (lg_sl ([.ref (a 0), .int p1])).length) Slot.unset).toArray = ls at hl ⊢
  have hl : lv_has ls 2 [(0, .ref (a 0)), (1, .int p1)] := hl
  unfold fcJ_seekReason at h
  refine lv_aload_n hx hb dX4_seekReason_0 rfl (lv_at hl 0 rfl) ?_
  refine lv_iload_n hx hb dX4_seekReason_1 rfl (lv_at hl 1 rfl) ?_
  refine lv_aload_n hx hb dX4_seekReason_2 rfl (lv_at hl 0 rfl) ?_
  refine lv_iload_n hx hb dX4_seekReason_3 rfl (lv_at hl 1 rfl) ?_
  obtain ⟨v1, hv1, h⟩ := bi_e h
  refine gw_ki V (va_runV (As := [.int p1]) (rest := [.int p1, .ref (a 0)]) ⟨hx, hb, hml, hown, hts⟩ (mX4_latestOfLine (D := D) (a := a) (cA := cA) (u := u) hv1) (cwV 1 hts gcjX4_216 rfl rfl rfl (by decide +kernel) ⟨Nat.le_of_ble_eq_true rfl, Nat.le_of_ble_eq_true rfl⟩) (gw_preV (q0 := 0) (ci := 4) gX_ok C V [.int p1] rfl rfl) rfl rfl hl.1 rfl (lv_room (Nat.le_of_ble_eq_true rfl)) dX4_seekReason_4 ⟨Nat.zero_le _, Nat.zero_le _⟩) (fun H locs V => ?_)
  refine lv_iconst (v := (1 : Int32)) hx hb dX4_seekReason_7 (by decide) ?_
  obtain ⟨v2, hv2, h⟩ := bi_e h
  refine gw_ki V (va_runV (As := [.int p1, .int v1, .int (1 : Int32)]) (rest := []) ⟨hx, hb, hml, hown, hts⟩ (mX4_takeReason (D := D) (a := a) (cA := cA) (u := u) hv2) (cwV 3 hts gcjX4_219 rfl rfl rfl (by decide +kernel) ⟨Nat.le_of_ble_eq_true rfl, Nat.le_of_ble_eq_true rfl⟩) (gw_preV (q0 := 0) (ci := 4) gX_ok C V [.int p1, .int v1, .int (1 : Int32)] rfl rfl) rfl rfl hl.1 rfl (lv_room (Nat.le_of_ble_eq_true rfl)) dX4_seekReason_8 ⟨Nat.zero_le _, Nat.zero_le _⟩) (fun H locs V => ?_)
  refine lv_if_eq (tgt := 15) hx hb dX4_seekReason_11 (by decide) (fun c3 => ?_) (fun c3 => ?_)
  · have h := if_t c3 h
    refine lv_aload_n hx hb dX4_seekReason_15 rfl (lv_at hl 0 rfl) ?_
    refine lv_iload_n hx hb dX4_seekReason_16 rfl (lv_at hl 1 rfl) ?_
    refine lv_aload_n hx hb dX4_seekReason_17 rfl (lv_at hl 0 rfl) ?_
    refine lv_iload_n hx hb dX4_seekReason_18 rfl (lv_at hl 1 rfl) ?_
    obtain ⟨v4, hv4, h⟩ := bi_e h
    refine gw_ki V (va_runV (As := [.int p1]) (rest := [.int p1, .ref (a 0)]) ⟨hx, hb, hml, hown, hts⟩ (mX4_firstOnStretch (D := D) (a := a) (cA := cA) (u := v2.2) hv4) (cwV 1 hts gcjX4_223 rfl rfl rfl (by decide +kernel) ⟨Nat.le_of_ble_eq_true rfl, Nat.le_of_ble_eq_true rfl⟩) (gw_preV (q0 := 0) (ci := 4) gX_ok C V [.int p1] rfl rfl) rfl rfl hl.1 rfl (lv_room (Nat.le_of_ble_eq_true rfl)) dX4_seekReason_19 ⟨Nat.zero_le _, Nat.zero_le _⟩) (fun H locs V => ?_)
    refine lv_iconst (v := (2 : Int32)) hx hb dX4_seekReason_22 (by decide) ?_
    obtain ⟨v5, hv5, h⟩ := bi_e h
    refine gw_ki V (va_runV (As := [.int p1, .int v4, .int (2 : Int32)]) (rest := []) ⟨hx, hb, hml, hown, hts⟩ (mX4_takeReason (D := D) (a := a) (cA := cA) (u := v2.2) hv5) (cwV 3 hts gcjX4_219 rfl rfl rfl (by decide +kernel) ⟨Nat.le_of_ble_eq_true rfl, Nat.le_of_ble_eq_true rfl⟩) (gw_preV (q0 := 0) (ci := 4) gX_ok C V [.int p1, .int v4, .int (2 : Int32)] rfl rfl) rfl rfl hl.1 rfl (lv_room (Nat.le_of_ble_eq_true rfl)) dX4_seekReason_23 ⟨Nat.zero_le _, Nat.zero_le _⟩) (fun H locs V => ?_)
    refine lv_if_eq (tgt := 30) hx hb dX4_seekReason_26 (by decide) (fun c6 => ?_) (fun c6 => ?_)
    · have h := if_t c6 h
      refine lv_aload_n hx hb dX4_seekReason_30 rfl (lv_at hl 0 rfl) ?_
      refine lv_iload_n hx hb dX4_seekReason_31 rfl (lv_at hl 1 rfl) ?_
      refine lv_aload_n hx hb dX4_seekReason_32 rfl (lv_at hl 0 rfl) ?_
      refine lv_iload_n hx hb dX4_seekReason_33 rfl (lv_at hl 1 rfl) ?_
      obtain ⟨v7, hv7, h⟩ := bi_e h
      refine gw_ki V (va_runV (As := [.int p1]) (rest := [.int p1, .ref (a 0)]) ⟨hx, hb, hml, hown, hts⟩ (mX4_nearestByPlace (D := D) (a := a) (cA := cA) (u := v5.2) hv7) (cwV 1 hts gcjX4_226 rfl rfl rfl (by decide +kernel) ⟨Nat.le_of_ble_eq_true rfl, Nat.le_of_ble_eq_true rfl⟩) (gw_preV (q0 := 0) (ci := 4) gX_ok C V [.int p1] rfl rfl) rfl rfl hl.1 rfl (lv_room (Nat.le_of_ble_eq_true rfl)) dX4_seekReason_34 ⟨Nat.zero_le _, Nat.zero_le _⟩) (fun H locs V => ?_)
      refine lv_iconst (v := (3 : Int32)) hx hb dX4_seekReason_37 (by decide) ?_
      obtain ⟨v8, hv8, h⟩ := bi_e h
      refine gw_ki V (va_runV (As := [.int p1, .int v7, .int (3 : Int32)]) (rest := []) ⟨hx, hb, hml, hown, hts⟩ (mX4_takeReason (D := D) (a := a) (cA := cA) (u := v5.2) hv8) (cwV 3 hts gcjX4_219 rfl rfl rfl (by decide +kernel) ⟨Nat.le_of_ble_eq_true rfl, Nat.le_of_ble_eq_true rfl⟩) (gw_preV (q0 := 0) (ci := 4) gX_ok C V [.int p1, .int v7, .int (3 : Int32)] rfl rfl) rfl rfl hl.1 rfl (lv_room (Nat.le_of_ble_eq_true rfl)) dX4_seekReason_38 ⟨Nat.zero_le _, Nat.zero_le _⟩) (fun H locs V => ?_)
      refine lv_if_eq (tgt := 45) hx hb dX4_seekReason_41 (by decide) (fun c9 => ?_) (fun c9 => ?_)
      · have h := if_t c9 h
        refine lv_aload_n hx hb dX4_seekReason_45 rfl (lv_at hl 0 rfl) ?_
        refine lv_iload_n hx hb dX4_seekReason_46 rfl (lv_at hl 1 rfl) ?_
        refine lv_aload_n hx hb dX4_seekReason_47 rfl (lv_at hl 0 rfl) ?_
        refine lv_iload_n hx hb dX4_seekReason_48 rfl (lv_at hl 1 rfl) ?_
        obtain ⟨v10, hv10, h⟩ := bi_e h
        refine gw_ki V (va_runV (As := [.int p1]) (rest := [.int p1, .ref (a 0)]) ⟨hx, hb, hml, hown, hts⟩ (mX4_greatestShare (D := D) (a := a) (cA := cA) (u := v8.2) hv10) (cwV 1 hts gcjX4_229 rfl rfl rfl (by decide +kernel) ⟨Nat.le_of_ble_eq_true rfl, Nat.le_of_ble_eq_true rfl⟩) (gw_preV (q0 := 0) (ci := 4) gX_ok C V [.int p1] rfl rfl) rfl rfl hl.1 rfl (lv_room (Nat.le_of_ble_eq_true rfl)) dX4_seekReason_49 ⟨Nat.zero_le _, Nat.zero_le _⟩) (fun H locs V => ?_)
        refine lv_iconst (v := (4 : Int32)) hx hb dX4_seekReason_52 (by decide) ?_
        obtain ⟨v11, hv11, h⟩ := bi_e h
        refine gw_ki V (va_runV (As := [.int p1, .int v10, .int (4 : Int32)]) (rest := []) ⟨hx, hb, hml, hown, hts⟩ (mX4_takeReason (D := D) (a := a) (cA := cA) (u := v8.2) hv11) (cwV 3 hts gcjX4_219 rfl rfl rfl (by decide +kernel) ⟨Nat.le_of_ble_eq_true rfl, Nat.le_of_ble_eq_true rfl⟩) (gw_preV (q0 := 0) (ci := 4) gX_ok C V [.int p1, .int v10, .int (4 : Int32)] rfl rfl) rfl rfl hl.1 rfl (lv_room (Nat.le_of_ble_eq_true rfl)) dX4_seekReason_53 ⟨Nat.zero_le _, Nat.zero_le _⟩) (fun H locs V => ?_)
        refine lv_pop hx hb dX4_seekReason_56 rfl ?_
        exact gw_retv hx hb hr hlk V (Option.some.inj h) dX4_seekReason_57
      · have h := if_f c9 h
        exact gw_retv hx hb hr hlk V (Option.some.inj h) dX4_seekReason_44
    · have h := if_f c6 h
      exact gw_retv hx hb hr hlk V (Option.some.inj h) dX4_seekReason_29
  · have h := if_f c3 h
    exact gw_retv hx hb hr hlk V (Option.some.inj h) dX4_seekReason_14
set_option maxHeartbeats 4000000 in
theorem mX1_begin {l : Launch} {D : va_G} {a : Nat → Nat} {cA : ClassId} {sz : Nat} {u : g_S} {p1 : Int32} {p2 : Int32} {rv : Int32 × g_S} (h : fcE_begin u p1 p2 = some rv) : gw_Mi D vwCl [(cA, .int)] (cjA a) gX (cjW a cA) l yX1_begin wxX1_begin rmX1_begin sz u [.ref (a 4), .int p1, .int p2] rv.1 rv.2 := by
  refine gw_Mof (Qc := fun z => va_Qi (gw_Pi rv.1 rv.2) (gw_W D vwCl (cjW a cA)) (rg (cjA a) z)) (cc := cX1_begin) (maxL := 3) (ret := (some .int)) (by decide) rfl ?_
  intro p e s m below meth c B C V
  obtain ⟨hx, hb, hml, hown, hts, hr, hlk⟩ := id B
  have hl := lv_entry ([.ref (a 4), .int p1, .int p2]) (n := 3) (Nat.le_of_ble_eq_true rfl)
  rw [lg_entry_eq]
  generalize (lg_sl ([.ref (a 4), .int p1, .int p2]) ++ List.replicate (3 - (lg_sl ([.ref (a 4), .int p1, .int p2])).length) Slot.unset).toArray = ls at hl ⊢
  have hl : lv_has ls 3 [(0, .ref (a 4)), (1, .int p1), (2, .int p2)] := hl
  unfold fcE_begin at h
  refine lv_aload_n hx hb dX1_begin_0 rfl (lv_at hl 0 rfl) ?_
  refine va_get (C := RX1) (T := TX1) (N := 7) (ci := 1) hx hb hts igX1 hown C.1 V.1 4 rfl rfl 1 (by decide) (hts _ kt_129) (fun _ h => h) rfl dX1_begin_1 ?_
  refine lv_aload_n hx hb dX1_begin_4 rfl (lv_at hl 0 rfl) ?_
  refine va_get (C := RX1) (T := TX1) (N := 7) (ci := 1) hx hb hts igX1 hown C.1 V.1 4 rfl rfl 0 (by decide) (hts _ kt_127) (fun _ h => h) rfl dX1_begin_5 ?_
  refine lv_iconst (v := (0 : Int32)) hx hb dX1_begin_8 (by decide) ?_
  obtain ⟨i1, h⟩ := ck_e h
  obtain ⟨u2, eu2, h⟩ := gl_e h
  refine gw_iast (u' := u2) hx hb (cjW_as a cA) C V 22 0 rfl rfl i1 (cjS_17 _ _ _ _ _ _ eu2) dX1_begin_9 (fun H locs V => ?_)
  refine lv_aload_n hx hb dX1_begin_10 rfl (lv_at hl 0 rfl) ?_
  refine va_get (C := RX1) (T := TX1) (N := 7) (ci := 1) hx hb hts igX1 hown C.1 V.1 4 rfl rfl 2 (by decide) (hts _ kt_131) (fun _ h => h) rfl dX1_begin_11 ?_
  refine lv_aload_n hx hb dX1_begin_14 rfl (lv_at hl 0 rfl) ?_
  refine va_get (C := RX1) (T := TX1) (N := 7) (ci := 1) hx hb hts igX1 hown C.1 V.1 4 rfl rfl 0 (by decide) (hts _ kt_127) (fun _ h => h) rfl dX1_begin_15 ?_
  refine lv_iload_n hx hb dX1_begin_18 rfl (lv_at hl 1 rfl) ?_
  obtain ⟨i3, h⟩ := ck_e h
  obtain ⟨u4, eu4, h⟩ := gl_e h
  refine gw_iast (u' := u4) hx hb (cjW_as a cA) C V 23 0 rfl rfl i3 (cjS_18 _ _ _ _ _ _ eu4) dX1_begin_19 (fun H locs V => ?_)
  refine lv_aload_n hx hb dX1_begin_20 rfl (lv_at hl 0 rfl) ?_
  refine va_get (C := RX1) (T := TX1) (N := 7) (ci := 1) hx hb hts igX1 hown C.1 V.1 4 rfl rfl 3 (by decide) (hts _ kt_133) (fun _ h => h) rfl dX1_begin_21 ?_
  refine lv_aload_n hx hb dX1_begin_24 rfl (lv_at hl 0 rfl) ?_
  refine va_get (C := RX1) (T := TX1) (N := 7) (ci := 1) hx hb hts igX1 hown C.1 V.1 4 rfl rfl 0 (by decide) (hts _ kt_127) (fun _ h => h) rfl dX1_begin_25 ?_
  refine lv_iload_n hx hb dX1_begin_28 rfl (lv_at hl 2 rfl) ?_
  obtain ⟨i5, h⟩ := ck_e h
  obtain ⟨u6, eu6, h⟩ := gl_e h
  refine gw_iast (u' := u6) hx hb (cjW_as a cA) C V 24 0 rfl rfl i5 (cjS_19 _ _ _ _ _ _ eu6) dX1_begin_29 (fun H locs V => ?_)
  refine lv_aload_n hx hb dX1_begin_30 rfl (lv_at hl 0 rfl) ?_
  refine va_get (C := RX1) (T := TX1) (N := 7) (ci := 1) hx hb hts igX1 hown C.1 V.1 4 rfl rfl 4 (by decide) (hts _ kt_135) (fun _ h => h) rfl dX1_begin_31 ?_
  refine lv_aload_n hx hb dX1_begin_34 rfl (lv_at hl 0 rfl) ?_
  refine va_get (C := RX1) (T := TX1) (N := 7) (ci := 1) hx hb hts igX1 hown C.1 V.1 4 rfl rfl 0 (by decide) (hts _ kt_127) (fun _ h => h) rfl dX1_begin_35 ?_
  refine lv_iconst (v := (-1 : Int32)) hx hb dX1_begin_38 (by decide) ?_
  obtain ⟨i7, h⟩ := ck_e h
  obtain ⟨u8, eu8, h⟩ := gl_e h
  refine gw_iast (u' := u8) hx hb (cjW_as a cA) C V 25 0 rfl rfl i7 (cjS_20 _ _ _ _ _ _ eu8) dX1_begin_39 (fun H locs V => ?_)
  refine lv_aload_n hx hb dX1_begin_40 rfl (lv_at hl 0 rfl) ?_
  refine lv_dup hx hb dX1_begin_41 rfl ?_
  refine va_get (C := RX1) (T := TX1) (N := 7) (ci := 1) hx hb hts igX1 hown C.1 V.1 4 rfl rfl 0 (by decide) (hts _ kt_127) (fun _ h => h) rfl dX1_begin_42 ?_
  refine lv_iconst (v := (1 : Int32)) hx hb dX1_begin_45 (by decide) ?_
  refine lv_iadd hx hb dX1_begin_46 ?_
  obtain ⟨u9, eu9, h⟩ := gl_e h
  refine gw_put (u' := u9) (C := RX1) (T := TX1) (N := 7) (ci := 1) hx hb hts igX1 tyX1 tyX1_ok nmX1 hown (cjW_as a cA) C V 4 rfl rfl 0 (by decide) (hts _ kt_127) (fun _ h => h) rfl rfl (Nat.le_of_ble_eq_true rfl) (cjP_1 _ _ _ _ _ eu9) dX1_begin_47 (fun H locs V => ?_)
  refine lv_aload_n hx hb dX1_begin_50 rfl (lv_at hl 0 rfl) ?_
  refine va_get (C := RX1) (T := TX1) (N := 7) (ci := 1) hx hb hts igX1 hown C.1 V.1 4 rfl rfl 0 (by decide) (hts _ kt_127) (fun _ h => h) rfl dX1_begin_51 ?_
  refine lv_iconst (v := (1 : Int32)) hx hb dX1_begin_54 (by decide) ?_
  refine lv_isub hx hb dX1_begin_55 ?_
  exact gw_reti hx hb hr rfl hlk V (in2a h) (in2b h) dX1_begin_56
set_option maxHeartbeats 4000000 in
theorem LX4_call_136 {p : Program} {l : Launch} {e : Env} {s : State} {m : MethodId} {below : List Frame} {meth : Method} {c : Code} {args : Array Value} {D : va_G} {a : Nat → Nat} {cA : ClassId} (hl9 : l.stackTraces = false) (B : gw_B p s m args meth c cX4_call 9 (some .int) RX4 gT) (htab : ∀ x ∈ c.exceptionTable.toList, False) (C : gw_C D vwCl [(cA, .int)] (cjA a) gX s) {rv : Nat × Int32 × g_S} : ∀ (x7 : Int32) (u : g_S) (H : Heap) (locs : List Loc) (ls : Array Slot), gw_V D vwCl (cjA a) (cjW a cA) s u H locs → lv_has ls 9 [(0, .ref (a 0)), (7, .int x7)] → fcJ_call_136 u x7 = some rv → W p l e (rmX4_call rv.1) s m args below meth c H locs 0 0 (gx_Ei D vwCl (cjA a) (cjW a cA) below args s (gk rv.1) (6 * gk rv.1) rv.1 rv.2.1 rv.2.2) (F0 m 136 ls []) := by
  obtain ⟨hx, hb, hml, hown, hts, hr, hlk⟩ := id B
  intro x7 u H locs ls V hl h
  unfold fcJ_call_136 at h
  refine lv_aload_n hx hb dX4_call_136 rfl (lv_at hl 0 rfl) ?_
  refine va_get (C := RX4) (T := TX4) (N := 4) (ci := 4) hx hb hts igX4 hown C.1 V.1 0 rfl rfl 2 (by decide) (hts _ kt_158) (fun _ h => h) rfl dX4_call_137 ?_
  refine lv_dup hx hb dX4_call_140 rfl ?_
  refine va_get (C := RX0) (T := TX0) (N := 11) (ci := 0) hx hb hts igX0 hown C.1 V.1 3 rfl rfl 0 (by decide) (hts _ kt_77) (fun _ h => h) rfl dX4_call_141 ?_
  refine lv_iconst (v := (1 : Int32)) hx hb dX4_call_144 (by decide) ?_
  refine lv_iadd hx hb dX4_call_145 ?_
  obtain ⟨u1, eu1, h⟩ := gl_e h
  refine gw_put (u' := u1) (C := RX0) (T := TX0) (N := 11) (ci := 0) hx hb hts igX0 tyX0 tyX0_ok nmX0 hown (cjW_as a cA) C V 3 rfl rfl 0 (by decide) (hts _ kt_77) (fun _ h => h) rfl rfl (Nat.le_of_ble_eq_true rfl) (cjP_0 _ _ _ _ _ eu1) dX4_call_146 (fun H locs V => ?_)
  refine lv_iload hx hb dX4_call_149 (lv_at hl 1 rfl) ?_
  exact gx_reti hx hb hr rfl hlk V (in3a h).symm (in3b h) (in3c h) (Nat.zero_le _) (Nat.zero_le _) dX4_call_151
set_option maxHeartbeats 4000000 in
theorem LX4_call_90 {p : Program} {l : Launch} {e : Env} {s : State} {m : MethodId} {below : List Frame} {meth : Method} {c : Code} {args : Array Value} {D : va_G} {a : Nat → Nat} {cA : ClassId} (hl9 : l.stackTraces = false) (B : gw_B p s m args meth c cX4_call 9 (some .int) RX4 gT) (htab : ∀ x ∈ c.exceptionTable.toList, False) (C : gw_C D vwCl [(cA, .int)] (cjA a) gX s) {rv : Nat × Int32 × g_S} : ∀ (x2 : Int32) (x7 : Int32) (y0 : Int32) (u : g_S) (H : Heap) (locs : List Loc) (ls : Array Slot), gw_V D vwCl (cjA a) (cjW a cA) s u H locs → lv_has ls 9 [(0, .ref (a 0)), (2, .int x2), (7, .int x7)] → fcJ_call_90 u x2 x7 y0 = some rv → W p l e (rmX4_call rv.1) s m args below meth c H locs 0 0 (gx_Ei D vwCl (cjA a) (cjW a cA) below args s (gk rv.1) (6 * gk rv.1) rv.1 rv.2.1 rv.2.2) (F0 m 90 ls [.int y0]) := by
  obtain ⟨hx, hb, hml, hown, hts, hr, hlk⟩ := id B
  intro x2 x7 y0 u H locs ls V hl h
  unfold fcJ_call_90 at h
  obtain ⟨v1, hv1, h⟩ := bi_e h
  refine gy_kv V (vx_runS (As := [.int y0]) (rest := []) ⟨hx, hb, hml, hown, hts⟩ (mX4_needRoom hl9 (D := D) (a := a) (cA := cA) (u := u) hv1) (cwS 1 hts gcjX4_69 rfl rfl rfl (by decide +kernel) ⟨Nat.le_of_ble_eq_true rfl, Nat.le_of_ble_eq_true rfl⟩) (gw_preS gX_ok C V [.int y0]) rfl rfl hl.1 rfl (lv_room (Nat.le_of_ble_eq_true rfl)) dX4_call_90 (gkr (gk_le (fun q => in3a (if_f q h))))) (fun k0 H locs ce qe V hat => ?_) (fun k0 H locs V => ?_)
  · have h := if_f k0 h
    exact gx_out htab hlk V hat k0 (in3a h) (in3c h) (gk1 (fun q => k0 ((in3a h).trans q))).1 (gk1 (fun q => k0 ((in3a h).trans q))).2
  have h := if_t k0 h
  refine lv_aload_n hx hb dX4_call_93 rfl (lv_at hl 0 rfl) ?_
  refine va_get (C := RX4) (T := TX4) (N := 4) (ci := 4) hx hb hts igX4 hown C.1 V.1 0 rfl rfl 2 (by decide) (hts _ kt_158) (fun _ h => h) rfl dX4_call_94 ?_
  refine va_get (C := RX0) (T := TX0) (N := 11) (ci := 0) hx hb hts igX0 hown C.1 V.1 3 rfl rfl 7 (by decide) (hts _ kt_91) (fun _ h => h) rfl dX4_call_97 ?_
  refine lv_iload hx hb dX4_call_100 (lv_at hl 2 rfl) ?_
  refine lv_aload_n hx hb dX4_call_102 rfl (lv_at hl 0 rfl) ?_
  refine va_get (C := RX4) (T := TX4) (N := 4) (ci := 4) hx hb hts igX4 hown C.1 V.1 0 rfl rfl 3 (by decide) (hts _ kt_159) (fun _ h => h) rfl dX4_call_103 ?_
  refine lv_iload_n hx hb dX4_call_106 rfl (lv_at hl 1 rfl) ?_
  refine lv_iload hx hb dX4_call_107 (lv_at hl 2 rfl) ?_
  obtain ⟨v2, hv2, h⟩ := bi_e h
  refine gw_ki V (va_runV (As := [.int x2, .int x7]) (rest := [.int x7, .ref (a 18)]) ⟨hx, hb, hml, hown, hts⟩ (mX1_begin (D := D) (a := a) (cA := cA) (u := u) hv2) (cwV 2 hts gcjX4_98 rfl rfl rfl (by decide +kernel) ⟨Nat.le_of_ble_eq_true rfl, Nat.le_of_ble_eq_true rfl⟩) (gw_preV (q0 := 4) (ci := 1) gX_ok C V [.int x2, .int x7] rfl rfl) rfl rfl hl.1 rfl (lv_room (Nat.le_of_ble_eq_true rfl)) dX4_call_109 ⟨Nat.zero_le _, Nat.zero_le _⟩) (fun H locs V => ?_)
  obtain ⟨i3, h⟩ := ck_e h
  obtain ⟨u4, eu4, h⟩ := gl_e h
  refine gw_iast (u' := u4) hx hb (cjW_as a cA) C V 18 0 rfl rfl i3 (cjS_13 _ _ _ _ _ _ eu4) dX4_call_112 (fun H locs V => ?_)
  refine lv_goto (tgt := 136) hx hb dX4_call_113 (by decide) ?_
  exact LX4_call_136 hl9 B htab C x7 u4 _ _ _ V (lv_sub hl [0, 2] rfl) h
set_option maxHeartbeats 4000000 in
theorem LX4_call_28 {p : Program} {l : Launch} {e : Env} {s : State} {m : MethodId} {below : List Frame} {meth : Method} {c : Code} {args : Array Value} {D : va_G} {a : Nat → Nat} {cA : ClassId} (hl9 : l.stackTraces = false) (B : gw_B p s m args meth c cX4_call 9 (some .int) RX4 gT) (htab : ∀ x ∈ c.exceptionTable.toList, False) (C : gw_C D vwCl [(cA, .int)] (cjA a) gX s) {rv : Nat × Int32 × g_S} : ∀ (x1 : Int32) (x2 : Int32) (x3 : Int32) (x4 : Int32) (x5 : Int32) (x6 : Int32) (y0 : Int32) (u : g_S) (H : Heap) (locs : List Loc) (ls : Array Slot), gw_V D vwCl (cjA a) (cjW a cA) s u H locs → lv_has ls 9 [(0, .ref (a 0)), (1, .int x1), (2, .int x2), (3, .int x3), (4, .int x4), (5, .int x5), (6, .int x6)] → fcJ_call_28 u x1 x2 x3 x4 x5 x6 y0 = some rv → W p l e (rmX4_call rv.1) s m args below meth c H locs 0 0 (gx_Ei D vwCl (cjA a) (cjW a cA) below args s (gk rv.1) (6 * gk rv.1) rv.1 rv.2.1 rv.2.2) (F0 m 28 ls [.int y0]) := by
  obtain ⟨hx, hb, hml, hown, hts, hr, hlk⟩ := id B
  intro x1 x2 x3 x4 x5 x6 y0 u H locs ls V hl h
  unfold fcJ_call_28 at h
  obtain ⟨v1, hv1, h⟩ := bi_e h
  refine gy_kv V (vx_runS (As := [.int y0]) (rest := []) ⟨hx, hb, hml, hown, hts⟩ (mX4_needRoom hl9 (D := D) (a := a) (cA := cA) (u := u) hv1) (cwS 1 hts gcjX4_69 rfl rfl rfl (by decide +kernel) ⟨Nat.le_of_ble_eq_true rfl, Nat.le_of_ble_eq_true rfl⟩) (gw_preS gX_ok C V [.int y0]) rfl rfl hl.1 rfl (lv_room (Nat.le_of_ble_eq_true rfl)) dX4_call_28 (gkr (gk_le (fun q => in3a (if_f q h))))) (fun k0 H locs ce qe V hat => ?_) (fun k0 H locs V => ?_)
  · have h := if_f k0 h
    exact gx_out htab hlk V hat k0 (in3a h) (in3c h) (gk1 (fun q => k0 ((in3a h).trans q))).1 (gk1 (fun q => k0 ((in3a h).trans q))).2
  have h := if_t k0 h
  refine lv_aload_n hx hb dX4_call_31 rfl (lv_at hl 0 rfl) ?_
  refine va_get (C := RX4) (T := TX4) (N := 4) (ci := 4) hx hb hts igX4 hown C.1 V.1 0 rfl rfl 2 (by decide) (hts _ kt_158) (fun _ h => h) rfl dX4_call_32 ?_
  refine lv_iload_n hx hb dX4_call_35 rfl (lv_at hl 1 rfl) ?_
  refine lv_iload_n hx hb dX4_call_36 rfl (lv_at hl 2 rfl) ?_
  refine lv_iload_n hx hb dX4_call_37 rfl (lv_at hl 3 rfl) ?_
  refine lv_iload hx hb dX4_call_38 (lv_at hl 4 rfl) ?_
  refine lv_iload hx hb dX4_call_40 (lv_at hl 5 rfl) ?_
  refine lv_iload hx hb dX4_call_42 (lv_at hl 6 rfl) ?_
  obtain ⟨v2, hv2, h⟩ := bi_e h
  refine gw_ki V (va_runV (As := [.int x1, .int x2, .int x3, .int x4, .int x5, .int x6]) (rest := []) ⟨hx, hb, hml, hown, hts⟩ (mX0_draft (D := D) (a := a) (cA := cA) (u := u) hv2) (cwV 6 hts gcjX4_83 rfl rfl rfl (by decide +kernel) ⟨Nat.le_of_ble_eq_true rfl, Nat.le_of_ble_eq_true rfl⟩) (gw_preV (q0 := 3) (ci := 0) gX_ok C V [.int x1, .int x2, .int x3, .int x4, .int x5, .int x6] rfl rfl) rfl rfl hl.1 rfl (lv_room (Nat.le_of_ble_eq_true rfl)) dX4_call_44 ⟨Nat.zero_le _, Nat.zero_le _⟩) (fun H locs V => ?_)
  refine lv_istore (lv' := [(7, .int v2.1), (0, .ref (a 0)), (1, .int x1), (2, .int x2), (3, .int x3), (4, .int x4), (5, .int x5), (6, .int x6)]) hx hb dX4_call_47 hl (by decide) rfl (fun ls hl => ?_)
  refine lv_aload_n hx hb dX4_call_49 rfl (lv_at hl 1 rfl) ?_
  refine lv_iload hx hb dX4_call_50 (lv_at hl 0 rfl) ?_
  obtain ⟨v3, hv3, h⟩ := bi_e h
  refine gw_kv V (va_runV (As := [.int v2.1]) (rest := []) ⟨hx, hb, hml, hown, hts⟩ (mX4_seekReason (D := D) (a := a) (cA := cA) (u := v2.2) hv3) (cwV 1 hts gcjX4_87 rfl rfl rfl (by decide +kernel) ⟨Nat.le_of_ble_eq_true rfl, Nat.le_of_ble_eq_true rfl⟩) (gw_preV (q0 := 0) (ci := 4) gX_ok C V [.int v2.1] rfl rfl) rfl rfl hl.1 rfl (lv_room (Nat.le_of_ble_eq_true rfl)) dX4_call_52 ⟨Nat.zero_le _, Nat.zero_le _⟩) (fun H locs V => ?_)
  refine lv_aload_n hx hb dX4_call_55 rfl (lv_at hl 1 rfl) ?_
  refine va_get (C := RX4) (T := TX4) (N := 4) (ci := 4) hx hb hts igX4 hown C.1 V.1 0 rfl rfl 2 (by decide) (hts _ kt_158) (fun _ h => h) rfl dX4_call_56 ?_
  refine va_get (C := RX0) (T := TX0) (N := 11) (ci := 0) hx hb hts igX0 hown C.1 V.1 3 rfl rfl 8 (by decide) (hts _ kt_93) (fun _ h => h) rfl dX4_call_59 ?_
  refine lv_iload hx hb dX4_call_62 (lv_at hl 0 rfl) ?_
  obtain ⟨i4, h⟩ := ck_e h
  refine va_iald hx hb C.1 V.1 19 0 rfl rfl i4 dX4_call_64 ?_
  obtain ⟨w5, ew5, h⟩ := gl_e h
  refine gw_nmi ew5 ?_
  refine lv_istore (lv' := [(8, .int w5), (7, .int v2.1), (0, .ref (a 0)), (1, .int x1), (2, .int x2), (3, .int x3), (4, .int x4), (5, .int x5), (6, .int x6)]) hx hb dX4_call_65 hl (by decide) rfl (fun ls hl => ?_)
  refine lv_iload hx hb dX4_call_67 (lv_at hl 0 rfl) ?_
  refine lv_iconst (v := (-1 : Int32)) hx hb dX4_call_69 (by decide) ?_
  refine lv_icmp_ne (tgt := 116) hx hb dX4_call_70 (by decide) (fun c6 => ?_) (fun c6 => ?_)
  · have h := if_t c6 h
    refine lv_aload_n hx hb dX4_call_116 rfl (lv_at hl 2 rfl) ?_
    refine va_get (C := RX4) (T := TX4) (N := 4) (ci := 4) hx hb hts igX4 hown C.1 V.1 0 rfl rfl 2 (by decide) (hts _ kt_158) (fun _ h => h) rfl dX4_call_117 ?_
    refine va_get (C := RX0) (T := TX0) (N := 11) (ci := 0) hx hb hts igX0 hown C.1 V.1 3 rfl rfl 7 (by decide) (hts _ kt_91) (fun _ h => h) rfl dX4_call_120 ?_
    refine lv_iload hx hb dX4_call_123 (lv_at hl 1 rfl) ?_
    refine lv_aload_n hx hb dX4_call_125 rfl (lv_at hl 2 rfl) ?_
    refine va_get (C := RX4) (T := TX4) (N := 4) (ci := 4) hx hb hts igX4 hown C.1 V.1 0 rfl rfl 2 (by decide) (hts _ kt_158) (fun _ h => h) rfl dX4_call_126 ?_
    refine va_get (C := RX0) (T := TX0) (N := 11) (ci := 0) hx hb hts igX0 hown C.1 V.1 3 rfl rfl 7 (by decide) (hts _ kt_91) (fun _ h => h) rfl dX4_call_129 ?_
    refine lv_iload hx hb dX4_call_132 (lv_at hl 0 rfl) ?_
    obtain ⟨i7, h⟩ := ck_e h
    refine va_iald hx hb C.1 V.1 18 0 rfl rfl i7 dX4_call_134 ?_
    obtain ⟨i8, h⟩ := ck_e h
    obtain ⟨u9, eu9, h⟩ := gl_e h
    refine gw_iast (u' := u9) hx hb (cjW_as a cA) C V 18 0 rfl rfl i8 (cjS_13 _ _ _ _ _ _ eu9) dX4_call_135 (fun H locs V => ?_)
    exact LX4_call_136 hl9 B htab C v2.1 u9 _ _ _ V (lv_sub hl [2, 1] rfl) h
  · have h := if_nn c6 h
    refine lv_aload_n hx hb dX4_call_73 rfl (lv_at hl 2 rfl) ?_
    refine va_get (C := RX4) (T := TX4) (N := 4) (ci := 4) hx hb hts igX4 hown C.1 V.1 0 rfl rfl 3 (by decide) (hts _ kt_159) (fun _ h => h) rfl dX4_call_74 ?_
    refine va_get (C := RX1) (T := TX1) (N := 7) (ci := 1) hx hb hts igX1 hown C.1 V.1 4 rfl rfl 0 (by decide) (hts _ kt_128) (fun _ h => h) rfl dX4_call_77 ?_
    refine lv_bipush (v := (60 : Int32)) hx hb dX4_call_80 (by decide) ?_
    refine lv_icmp_ge (tgt := 89) hx hb dX4_call_82 (by decide) (fun c10 => ?_) (fun c10 => ?_)
    · have h := if_t c10 h
      refine lv_iconst (v := (0 : Int32)) hx hb dX4_call_89 (by decide) ?_
      exact LX4_call_90 hl9 B htab C x2 v2.1 (0 : Int32) v3 _ _ _ V (lv_sub hl [2, 4, 1] rfl) h
    · have h := if_f c10 h
      refine lv_iconst (v := (1 : Int32)) hx hb dX4_call_85 (by decide) ?_
      refine lv_goto (tgt := 90) hx hb dX4_call_86 (by decide) ?_
      exact LX4_call_90 hl9 B htab C x2 v2.1 (1 : Int32) v3 _ _ _ V (lv_sub hl [2, 4, 1] rfl) h
set_option maxHeartbeats 4000000 in
theorem mX4_call {l : Launch} (hl9 : l.stackTraces = false) {D : va_G} {a : Nat → Nat} {cA : ClassId} {sz : Nat} {u : g_S} {p1 : Int32} {p2 : Int32} {p3 : Int32} {p4 : Int32} {p5 : Int32} {p6 : Int32} {rv : Nat × Int32 × g_S} (h : fcJ_call u p1 p2 p3 p4 p5 p6 = some rv) : gx_Mi D vwCl [(cA, .int)] (cjA a) gX (cjW a cA) l yX4_call wxX4_call (rmX4_call rv.1) (gk rv.1) (6 * gk rv.1) sz u [.ref (a 0), .int p1, .int p2, .int p3, .int p4, .int p5, .int p6] rv.1 rv.2.1 rv.2.2 := by
  refine gx_Mof (Qc := fun z => va_Qi (gx_Pi rv.1 rv.2.1 rv.2.2) (gw_W D vwCl (cjW a cA)) (rg (cjA a) z)) (XC := fun z => vx_X (gx_Px rv.1 rv.2.2) (gx_W D vwCl (cjW a cA) rv.1) (rg (cjA a) z)) (cc := cX4_call) (maxL := 9) (ret := (some .int)) (by decide) rfl ?_
  intro p e s m below meth c B htab C V
  obtain ⟨hx, hb, hml, hown, hts, hr, hlk⟩ := id B
  have hl := lv_entry ([.ref (a 0), .int p1, .int p2, .int p3, .int p4, .int p5, .int p6]) (n := 9) (Nat.le_of_ble_eq_true rfl)
  rw [lg_entry_eq]
  generalize (lg_sl ([.ref (a 0), .int p1, .int p2, .int p3, .int p4, .int p5, .int p6]) ++ List.replicate (9 - (lg_sl ([.ref (a 0), .int p1, .int p2, .int p3, .int p4, .int p5, .int p6])).length) Slot.unset).toArray = ls at hl ⊢
  have hl : lv_has ls 9 [(0, .ref (a 0)), (1, .int p1), (2, .int p2), (3, .int p3), (4, .int p4), (5, .int p5), (6, .int p6)] := hl
  unfold fcJ_call at h
  refine lv_aload_n hx hb dX4_call_0 rfl (lv_at hl 0 rfl) ?_
  refine lv_iload_n hx hb dX4_call_1 rfl (lv_at hl 1 rfl) ?_
  refine lv_iload_n hx hb dX4_call_2 rfl (lv_at hl 2 rfl) ?_
  refine lv_iload_n hx hb dX4_call_3 rfl (lv_at hl 3 rfl) ?_
  refine lv_iload hx hb dX4_call_4 (lv_at hl 5 rfl) ?_
  refine lv_iload hx hb dX4_call_6 (lv_at hl 6 rfl) ?_
  obtain ⟨v1, hv1, h⟩ := bi_e h
  refine gy_kv V (vx_runV (As := [.int p1, .int p2, .int p3, .int p5, .int p6]) (rest := []) ⟨hx, hb, hml, hown, hts⟩ (mX4_needCallData hl9 (D := D) (a := a) (cA := cA) (u := u) hv1) (cwV 5 hts gcjX4_76 rfl rfl rfl (by decide +kernel) ⟨Nat.le_of_ble_eq_true rfl, Nat.le_of_ble_eq_true rfl⟩) (gw_preV (q0 := 0) (ci := 4) gX_ok C V [.int p1, .int p2, .int p3, .int p5, .int p6] rfl rfl) rfl rfl hl.1 rfl (lv_room (Nat.le_of_ble_eq_true rfl)) dX4_call_8 (gkr (gk_le (fun q => in3a (if_f q h))))) (fun k0 H locs ce qe V hat => ?_) (fun k0 H locs V => ?_)
  · have h := if_f k0 h
    exact gx_out htab hlk V hat k0 (in3a h) (in3c h) (gk1 (fun q => k0 ((in3a h).trans q))).1 (gk1 (fun q => k0 ((in3a h).trans q))).2
  have h := if_t k0 h
  refine lv_aload_n hx hb dX4_call_11 rfl (lv_at hl 0 rfl) ?_
  refine va_get (C := RX4) (T := TX4) (N := 4) (ci := 4) hx hb hts igX4 hown C.1 V.1 0 rfl rfl 2 (by decide) (hts _ kt_158) (fun _ h => h) rfl dX4_call_12 ?_
  refine va_get (C := RX0) (T := TX0) (N := 11) (ci := 0) hx hb hts igX0 hown C.1 V.1 3 rfl rfl 0 (by decide) (hts _ kt_77) (fun _ h => h) rfl dX4_call_15 ?_
  refine lv_bipush (v := (120 : Int32)) hx hb dX4_call_18 (by decide) ?_
  refine lv_icmp_ge (tgt := 27) hx hb dX4_call_20 (by decide) (fun c2 => ?_) (fun c2 => ?_)
  · have h := if_t c2 h
    refine lv_iconst (v := (0 : Int32)) hx hb dX4_call_27 (by decide) ?_
    exact LX4_call_28 hl9 B htab C p1 p2 p3 p4 p5 p6 (0 : Int32) u _ _ _ V (lv_sub hl [0, 1, 2, 3, 4, 5, 6] rfl) h
  · have h := if_f c2 h
    refine lv_iconst (v := (1 : Int32)) hx hb dX4_call_23 (by decide) ?_
    refine lv_goto (tgt := 28) hx hb dX4_call_24 (by decide) ?_
    exact LX4_call_28 hl9 B htab C p1 p2 p3 p4 p5 p6 (1 : Int32) u _ _ _ V (lv_sub hl [0, 1, 2, 3, 4, 5, 6] rfl) h
