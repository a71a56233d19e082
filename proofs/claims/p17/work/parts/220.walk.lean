set_option maxHeartbeats 4000000 in
theorem mX3_meetsNeed {l : Launch} {D : va_G} {a : Nat → Nat} {cA : ClassId} {sz : Nat} {u : g_S} {p1 : Int32} {p2 : Int32} {p3 : Int32} {rv : Int32} (h : fcU_meetsNeed u p1 p2 p3 = some rv) : gw_Mi D vwCl [(cA, .int)] (cjA a) gX (cjW a cA) l yX3_meetsNeed wxX3_meetsNeed rmX3_meetsNeed sz u [.ref (a 1), .int p1, .int p2, .int p3] rv u := by
  refine gw_Mof (Qc := fun z => va_Qi (gw_Pi rv u) (gw_W D vwCl (cjW a cA)) (rg (cjA a) z)) (cc := cX3_meetsNeed) (maxL := 4) (ret := (some .boolean)) (by decide) rfl ?_
  intro p e s m below meth c B C V
  obtain ⟨hx, hb, hml, hown, hts, hr, hlk⟩ := id B
  have hl := lv_entry ([.ref (a 1), .int p1, .int p2, .int p3]) (n := 4) (Nat.le_of_ble_eq_true rfl)
  rw [lg_entry_eq]
  generalize (lg_sl ([.ref (a 1), .int p1, .int p2, .int p3]) ++ List.replicate (4 - (lg_sl ([.ref (a 1), .int p1, .int p2, .int p3])).length) Slot.unset).toArray = ls at hl ⊢
  have hl : lv_has ls 4 [(0, .ref (a 1)), (1, .int p1), (2, .int p2), (3, .int p3)] := hl
  unfold fcU_meetsNeed at h
  refine lv_iload_n hx hb dX3_meetsNeed_0 rfl (lv_at hl 2 rfl) ?_
  refine lv_aload_n hx hb dX3_meetsNeed_1 rfl (lv_at hl 0 rfl) ?_
  refine va_get (C := RX3) (T := TX3) (N := 5) (ci := 3) hx hb hts igX3 hown C.1 V.1 1 rfl rfl 3 (by decide) (hts _ kt_40) (fun _ h => h) rfl dX3_meetsNeed_2 ?_
  refine lv_iload_n hx hb dX3_meetsNeed_5 rfl (lv_at hl 1 rfl) ?_
  obtain ⟨i1, h⟩ := ck_e h
  refine va_iald hx hb C.1 V.1 8 0 rfl rfl i1 dX3_meetsNeed_6 ?_
  refine lv_imul hx hb dX3_meetsNeed_7 ?_
  refine lv_aload_n hx hb dX3_meetsNeed_8 rfl (lv_at hl 0 rfl) ?_
  refine va_get (C := RX3) (T := TX3) (N := 5) (ci := 3) hx hb hts igX3 hown C.1 V.1 1 rfl rfl 2 (by decide) (hts _ kt_38) (fun _ h => h) rfl dX3_meetsNeed_9 ?_
  refine lv_iload_n hx hb dX3_meetsNeed_12 rfl (lv_at hl 1 rfl) ?_
  obtain ⟨i2, h⟩ := ck_e h
  refine va_iald hx hb C.1 V.1 7 0 rfl rfl i2 dX3_meetsNeed_13 ?_
  refine lv_iload_n hx hb dX3_meetsNeed_14 rfl (lv_at hl 3 rfl) ?_
  refine lv_imul hx hb dX3_meetsNeed_15 ?_
  refine lv_icmp_lt (tgt := 23) hx hb dX3_meetsNeed_16 (by decide) (fun c3 => ?_) (fun c3 => ?_)
  · have h := if_t c3 h
    refine lv_iconst (v := (0 : Int32)) hx hb dX3_meetsNeed_23 (by decide) ?_
    exact gw_reti hx hb hr (nar_z (Or.inl rfl)) hlk V (Option.some.inj h) rfl dX3_meetsNeed_24
  · have h := if_f c3 h
    refine lv_iconst (v := (1 : Int32)) hx hb dX3_meetsNeed_19 (by decide) ?_
    refine lv_goto (tgt := 24) hx hb dX3_meetsNeed_20 (by decide) ?_
    exact gw_reti hx hb hr (nar_z (Or.inr rfl)) hlk V (Option.some.inj h) rfl dX3_meetsNeed_24
set_option maxHeartbeats 4000000 in
theorem LX4_agreement_144 {p : Program} {l : Launch} {e : Env} {s : State} {m : MethodId} {below : List Frame} {meth : Method} {c : Code} {args : Array Value} {D : va_G} {a : Nat → Nat} {cA : ClassId} (B : gw_B p s m args meth c cX4_agreement 13 (some .int) RX4 gT) (C : gw_C D vwCl [(cA, .int)] (cjA a) gX s) {rv : Int32} {u : g_S} : ∀ (x7 : Int32) (H : Heap) (locs : List Loc) (ls : Array Slot), gw_V D vwCl (cjA a) (cjW a cA) s u H locs → lv_has ls 13 [(7, .int x7)] → fcJ_agreement_144 u x7 = some rv → W p l e rmX4_agreement s m args below meth c H locs 0 0 (gw_Ei D vwCl (cjA a) (cjW a cA) below args s rv u) (F0 m 144 ls []) := by
  obtain ⟨hx, hb, hml, hown, hts, hr, hlk⟩ := id B
  intro x7 H locs ls V hl h
  unfold fcJ_agreement_144 at h
  refine lv_iload hx hb dX4_agreement_144 (lv_at hl 0 rfl) ?_
  refine lv_if_eq (tgt := 153) hx hb dX4_agreement_146 (by decide) (fun c1 => ?_) (fun c1 => ?_)
  · have h := if_t c1 h
    refine lv_iconst (v := (0 : Int32)) hx hb dX4_agreement_153 (by decide) ?_
    exact gw_reti hx hb hr rfl hlk V (Option.some.inj h) rfl dX4_agreement_154
  · have h := if_f c1 h
    refine lv_iconst (v := (2 : Int32)) hx hb dX4_agreement_149 (by decide) ?_
    refine lv_goto (tgt := 154) hx hb dX4_agreement_150 (by decide) ?_
    exact gw_reti hx hb hr rfl hlk V (Option.some.inj h) rfl dX4_agreement_154
set_option maxHeartbeats 4000000 in
theorem LX4_agreement_244 {p : Program} {l : Launch} {e : Env} {s : State} {m : MethodId} {below : List Frame} {meth : Method} {c : Code} {args : Array Value} {D : va_G} {a : Nat → Nat} {cA : ClassId} (B : gw_B p s m args meth c cX4_agreement 13 (some .int) RX4 gT) (C : gw_C D vwCl [(cA, .int)] (cjA a) gX s) {rv : Int32} {u : g_S} : ∀ (y0 : Int32) (H : Heap) (locs : List Loc) (ls : Array Slot), gw_V D vwCl (cjA a) (cjW a cA) s u H locs → lv_has ls 13 [] → fcJ_agreement_244 u y0 = some rv → W p l e rmX4_agreement s m args below meth c H locs 0 0 (gw_Ei D vwCl (cjA a) (cjW a cA) below args s rv u) (F0 m 244 ls [.int y0]) := by
  obtain ⟨hx, hb, hml, hown, hts, hr, hlk⟩ := id B
  intro y0 H locs ls V hl h
  unfold fcJ_agreement_244 at h
  refine lv_istore (lv' := [(12, .int y0)]) hx hb dX4_agreement_244 hl (by decide) rfl (fun ls hl => ?_)
  refine lv_iload hx hb dX4_agreement_246 (lv_at hl 0 rfl) ?_
  refine lv_if_eq (tgt := 255) hx hb dX4_agreement_248 (by decide) (fun c1 => ?_) (fun c1 => ?_)
  · have h := if_t c1 h
    refine lv_iconst (v := (0 : Int32)) hx hb dX4_agreement_255 (by decide) ?_
    exact gw_reti hx hb hr rfl hlk V (Option.some.inj h) rfl dX4_agreement_256
  · have h := if_f c1 h
    refine lv_iconst (v := (1 : Int32)) hx hb dX4_agreement_251 (by decide) ?_
    refine lv_goto (tgt := 256) hx hb dX4_agreement_252 (by decide) ?_
    exact gw_reti hx hb hr rfl hlk V (Option.some.inj h) rfl dX4_agreement_256
set_option maxHeartbeats 4000000 in
theorem LX4_agreement_116 {p : Program} {l : Launch} {e : Env} {s : State} {m : MethodId} {below : List Frame} {meth : Method} {c : Code} {args : Array Value} {D : va_G} {a : Nat → Nat} {cA : ClassId} (B : gw_B p s m args meth c cX4_agreement 13 (some .int) RX4 gT) (C : gw_C D vwCl [(cA, .int)] (cjA a) gX s) {rv : Int32} {u : g_S} : ∀ (x1 : Int32) (x2 : Int32) (x3 : Int32) (x6 : Int32) (y0 : Int32) (H : Heap) (locs : List Loc) (ls : Array Slot), gw_V D vwCl (cjA a) (cjW a cA) s u H locs → lv_has ls 13 [(0, .ref (a 0)), (1, .int x1), (2, .int x2), (3, .int x3), (6, .int x6)] → fcJ_agreement_116 u x1 x2 x3 x6 y0 = some rv → W p l e rmX4_agreement s m args below meth c H locs 0 0 (gw_Ei D vwCl (cjA a) (cjW a cA) below args s rv u) (F0 m 116 ls [.int y0]) := by
  obtain ⟨hx, hb, hml, hown, hts, hr, hlk⟩ := id B
  intro x1 x2 x3 x6 y0 H locs ls V hl h
  unfold fcJ_agreement_116 at h
  refine lv_istore (lv' := [(7, .int y0), (0, .ref (a 0)), (1, .int x1), (2, .int x2), (3, .int x3), (6, .int x6)]) hx hb dX4_agreement_116 hl (by decide) rfl (fun ls hl => ?_)
  refine lv_aload_n hx hb dX4_agreement_118 rfl (lv_at hl 1 rfl) ?_
  refine va_get (C := RX4) (T := TX4) (N := 4) (ci := 4) hx hb hts igX4 hown C.1 V.1 0 rfl rfl 2 (by decide) (hts _ kt_158) (fun _ h => h) rfl dX4_agreement_119 ?_
  refine va_get (C := RX0) (T := TX0) (N := 11) (ci := 0) hx hb hts igX0 hown C.1 V.1 3 rfl rfl 3 (by decide) (hts _ kt_83) (fun _ h => h) rfl dX4_agreement_122 ?_
  refine lv_iload_n hx hb dX4_agreement_125 rfl (lv_at hl 2 rfl) ?_
  obtain ⟨i1, h⟩ := ck_e h
  refine va_iald hx hb C.1 V.1 14 0 rfl rfl i1 dX4_agreement_126 ?_
  refine lv_iconst (v := (-1 : Int32)) hx hb dX4_agreement_127 (by decide) ?_
  refine lv_icmp_eq (tgt := 144) hx hb dX4_agreement_128 (by decide) (fun c2 => ?_) (fun c2 => ?_)
  · have h := if_t c2 h
    exact LX4_agreement_144 B C y0 _ _ _ V (lv_sub hl [0] rfl) h
  · have h := if_f c2 h
    refine lv_aload_n hx hb dX4_agreement_131 rfl (lv_at hl 1 rfl) ?_
    refine va_get (C := RX4) (T := TX4) (N := 4) (ci := 4) hx hb hts igX4 hown C.1 V.1 0 rfl rfl 2 (by decide) (hts _ kt_158) (fun _ h => h) rfl dX4_agreement_132 ?_
    refine va_get (C := RX0) (T := TX0) (N := 11) (ci := 0) hx hb hts igX0 hown C.1 V.1 3 rfl rfl 3 (by decide) (hts _ kt_83) (fun _ h => h) rfl dX4_agreement_135 ?_
    refine lv_iload_n hx hb dX4_agreement_138 rfl (lv_at hl 3 rfl) ?_
    obtain ⟨i3, h⟩ := ck_e h
    refine va_iald hx hb C.1 V.1 14 0 rfl rfl i3 dX4_agreement_139 ?_
    refine lv_iconst (v := (-1 : Int32)) hx hb dX4_agreement_140 (by decide) ?_
    refine lv_icmp_ne (tgt := 155) hx hb dX4_agreement_141 (by decide) (fun c4 => ?_) (fun c4 => ?_)
    · have h := if_t c4 h
      refine lv_aload_n hx hb dX4_agreement_155 rfl (lv_at hl 1 rfl) ?_
      refine va_get (C := RX4) (T := TX4) (N := 4) (ci := 4) hx hb hts igX4 hown C.1 V.1 0 rfl rfl 2 (by decide) (hts _ kt_158) (fun _ h => h) rfl dX4_agreement_156 ?_
      refine va_get (C := RX0) (T := TX0) (N := 11) (ci := 0) hx hb hts igX0 hown C.1 V.1 3 rfl rfl 3 (by decide) (hts _ kt_83) (fun _ h => h) rfl dX4_agreement_159 ?_
      refine lv_iload_n hx hb dX4_agreement_162 rfl (lv_at hl 2 rfl) ?_
      obtain ⟨i5, h⟩ := ck_e h
      refine va_iald hx hb C.1 V.1 14 0 rfl rfl i5 dX4_agreement_163 ?_
      refine lv_aload_n hx hb dX4_agreement_164 rfl (lv_at hl 1 rfl) ?_
      refine va_get (C := RX4) (T := TX4) (N := 4) (ci := 4) hx hb hts igX4 hown C.1 V.1 0 rfl rfl 2 (by decide) (hts _ kt_158) (fun _ h => h) rfl dX4_agreement_165 ?_
      refine va_get (C := RX0) (T := TX0) (N := 11) (ci := 0) hx hb hts igX0 hown C.1 V.1 3 rfl rfl 3 (by decide) (hts _ kt_83) (fun _ h => h) rfl dX4_agreement_168 ?_
      refine lv_iload_n hx hb dX4_agreement_171 rfl (lv_at hl 3 rfl) ?_
      obtain ⟨i6, h⟩ := ck_e h
      refine va_iald hx hb C.1 V.1 14 0 rfl rfl i6 dX4_agreement_172 ?_
      obtain ⟨v7, hv7, h⟩ := bi_e h
      refine gw_kl V (va_runS (As := [.int (u.2 9 x1.toNatClampNeg), .int (u.2 9 x2.toNatClampNeg)]) (rest := []) ⟨hx, hb, hml, hown, hts⟩ (mX4_squareBetween (D := D) (a := a) (cA := cA) (u := u) hv7) (cwS 2 hts gcjX4_258 rfl rfl rfl (by decide +kernel) ⟨Nat.le_of_ble_eq_true rfl, Nat.le_of_ble_eq_true rfl⟩) (gw_preS gX_ok C V [.int (u.2 9 x1.toNatClampNeg), .int (u.2 9 x2.toNatClampNeg)]) rfl rfl hl.1 rfl (lv_room (Nat.le_of_ble_eq_true rfl)) dX4_agreement_173 ⟨Nat.zero_le _, Nat.zero_le _⟩) (fun H locs V => ?_)
      refine lv_lstore (lv' := [(8, .long v7), (7, .int y0), (0, .ref (a 0)), (1, .int x1), (2, .int x2), (3, .int x3), (6, .int x6)]) hx hb dX4_agreement_176 hl (by decide) rfl (fun ls hl => ?_)
      refine lv_aload_n hx hb dX4_agreement_178 rfl (lv_at hl 2 rfl) ?_
      refine va_get (C := RX4) (T := TX4) (N := 4) (ci := 4) hx hb hts igX4 hown C.1 V.1 0 rfl rfl 0 (by decide) (hts _ kt_156) (fun _ h => h) rfl dX4_agreement_179 ?_
      refine va_get (C := RX3) (T := TX3) (N := 5) (ci := 3) hx hb hts igX3 hown C.1 V.1 1 rfl rfl 0 (by decide) (hts _ kt_35) (fun _ h => h) rfl dX4_agreement_182 ?_
      refine lv_iload_n hx hb dX4_agreement_185 rfl (lv_at hl 5 rfl) ?_
      obtain ⟨i8, h⟩ := ck_e h
      refine va_iald hx hb C.1 V.1 5 0 rfl rfl i8 dX4_agreement_186 ?_
      refine lv_i2l (v := (Int32.toInt64 (u.2 0 x3.toNatClampNeg))) hx hb dX4_agreement_187 rfl ?_
      refine lv_aload_n hx hb dX4_agreement_188 rfl (lv_at hl 2 rfl) ?_
      refine va_get (C := RX4) (T := TX4) (N := 4) (ci := 4) hx hb hts igX4 hown C.1 V.1 0 rfl rfl 0 (by decide) (hts _ kt_156) (fun _ h => h) rfl dX4_agreement_189 ?_
      refine va_get (C := RX3) (T := TX3) (N := 5) (ci := 3) hx hb hts igX3 hown C.1 V.1 1 rfl rfl 0 (by decide) (hts _ kt_35) (fun _ h => h) rfl dX4_agreement_192 ?_
      refine lv_iload_n hx hb dX4_agreement_195 rfl (lv_at hl 5 rfl) ?_
      obtain ⟨i9, h⟩ := ck_e h
      refine va_iald hx hb C.1 V.1 5 0 rfl rfl i9 dX4_agreement_196 ?_
      refine lv_i2l (v := (Int32.toInt64 (u.2 0 x3.toNatClampNeg))) hx hb dX4_agreement_197 rfl ?_
      refine lv_lmul hx hb dX4_agreement_198 ?_
      obtain ⟨w10, ew10, h⟩ := gl_e h
      refine gw_nml ew10 ?_
      refine lv_lstore (lv' := [(10, .long w10), (8, .long v7), (7, .int y0), (0, .ref (a 0)), (1, .int x1), (2, .int x2), (3, .int x3), (6, .int x6)]) hx hb dX4_agreement_199 hl (by decide) rfl (fun ls hl => ?_)
      refine lv_iload hx hb dX4_agreement_201 (lv_at hl 7 rfl) ?_
      refine lv_if_eq (tgt := 227) hx hb dX4_agreement_203 (by decide) (fun c11 => ?_) (fun c11 => ?_)
      · have h := if_t c11 h
        refine lv_ldc2 (v := (4 : Int64)) hx hb hown (hts _ kt_412) dX4_agreement_227 ?_
        refine lv_lload hx hb dX4_agreement_230 (lv_at hl 1 rfl) ?_
        refine lv_lmul hx hb dX4_agreement_232 ?_
        refine lv_lload hx hb dX4_agreement_233 (lv_at hl 0 rfl) ?_
        refine W.lcmp hx hb dX4_agreement_235 ?_
        refine lv_if_gt (tgt := 243) hx hb dX4_agreement_236 (by decide) (fun c12 => ?_) (fun c12 => ?_)
        · have h := if_t c12 h
          refine lv_iconst (v := (0 : Int32)) hx hb dX4_agreement_243 (by decide) ?_
          exact LX4_agreement_244 B C (0 : Int32) _ _ _ V (lv_sub hl [] rfl) h
        · have h := if_f c12 h
          refine lv_iconst (v := (1 : Int32)) hx hb dX4_agreement_239 (by decide) ?_
          refine lv_goto (tgt := 244) hx hb dX4_agreement_240 (by decide) ?_
          exact LX4_agreement_244 B C (1 : Int32) _ _ _ V (lv_sub hl [] rfl) h
      · have h := if_f c11 h
        refine lv_iload hx hb dX4_agreement_206 (lv_at hl 2 rfl) ?_
        refine lv_if_eq (tgt := 223) hx hb dX4_agreement_208 (by decide) (fun c13 => ?_) (fun c13 => ?_)
        · have h := if_t c13 h
          refine lv_iconst (v := (0 : Int32)) hx hb dX4_agreement_223 (by decide) ?_
          refine lv_goto (tgt := 244) hx hb dX4_agreement_224 (by decide) ?_
          exact LX4_agreement_244 B C (0 : Int32) _ _ _ V (lv_sub hl [] rfl) h
        · have h := if_f c13 h
          refine lv_lload hx hb dX4_agreement_211 (lv_at hl 1 rfl) ?_
          refine lv_lload hx hb dX4_agreement_213 (lv_at hl 0 rfl) ?_
          refine W.lcmp hx hb dX4_agreement_215 ?_
          refine lv_if_gt (tgt := 223) hx hb dX4_agreement_216 (by decide) (fun c14 => ?_) (fun c14 => ?_)
          · have h := if_t c14 h
            refine lv_iconst (v := (0 : Int32)) hx hb dX4_agreement_223 (by decide) ?_
            refine lv_goto (tgt := 244) hx hb dX4_agreement_224 (by decide) ?_
            exact LX4_agreement_244 B C (0 : Int32) _ _ _ V (lv_sub hl [] rfl) h
          · have h := if_f c14 h
            refine lv_iconst (v := (1 : Int32)) hx hb dX4_agreement_219 (by decide) ?_
            refine lv_goto (tgt := 244) hx hb dX4_agreement_220 (by decide) ?_
            exact LX4_agreement_244 B C (1 : Int32) _ _ _ V (lv_sub hl [] rfl) h
    · have h := if_nn c4 h
      exact LX4_agreement_144 B C y0 _ _ _ V (lv_sub hl [0] rfl) h
set_option maxHeartbeats 4000000 in
theorem LX4_agreement_89 {p : Program} {l : Launch} {e : Env} {s : State} {m : MethodId} {below : List Frame} {meth : Method} {c : Code} {args : Array Value} {D : va_G} {a : Nat → Nat} {cA : ClassId} (B : gw_B p s m args meth c cX4_agreement 13 (some .int) RX4 gT) (C : gw_C D vwCl [(cA, .int)] (cjA a) gX s) {rv : Int32} {u : g_S} : ∀ (x1 : Int32) (x2 : Int32) (x3 : Int32) (x4 : Int32) (x5 : Int32) (y0 : Int32) (H : Heap) (locs : List Loc) (ls : Array Slot), gw_V D vwCl (cjA a) (cjW a cA) s u H locs → lv_has ls 13 [(0, .ref (a 0)), (1, .int x1), (2, .int x2), (3, .int x3), (4, .int x4), (5, .int x5)] → fcJ_agreement_89 u x1 x2 x3 x4 x5 y0 = some rv → W p l e rmX4_agreement s m args below meth c H locs 0 0 (gw_Ei D vwCl (cjA a) (cjW a cA) below args s rv u) (F0 m 89 ls [.int y0]) := by
  obtain ⟨hx, hb, hml, hown, hts, hr, hlk⟩ := id B
  intro x1 x2 x3 x4 x5 y0 H locs ls V hl h
  unfold fcJ_agreement_89 at h
  refine lv_istore (lv' := [(6, .int y0), (0, .ref (a 0)), (1, .int x1), (2, .int x2), (3, .int x3), (4, .int x4), (5, .int x5)]) hx hb dX4_agreement_89 hl (by decide) rfl (fun ls hl => ?_)
  refine lv_iload hx hb dX4_agreement_91 (lv_at hl 0 rfl) ?_
  refine lv_if_eq (tgt := 115) hx hb dX4_agreement_93 (by decide) (fun c1 => ?_) (fun c1 => ?_)
  · have h := if_t c1 h
    refine lv_iconst (v := (0 : Int32)) hx hb dX4_agreement_115 (by decide) ?_
    exact LX4_agreement_116 B C x1 x2 x3 y0 (0 : Int32) _ _ _ V (lv_sub hl [1, 2, 3, 4, 0] rfl) h
  · have h := if_f c1 h
    refine lv_aload_n hx hb dX4_agreement_96 rfl (lv_at hl 1 rfl) ?_
    refine va_get (C := RX4) (T := TX4) (N := 4) (ci := 4) hx hb hts igX4 hown C.1 V.1 0 rfl rfl 0 (by decide) (hts _ kt_156) (fun _ h => h) rfl dX4_agreement_97 ?_
    refine lv_iload_n hx hb dX4_agreement_100 rfl (lv_at hl 4 rfl) ?_
    refine lv_iload hx hb dX4_agreement_101 (lv_at hl 6 rfl) ?_
    refine lv_iload hx hb dX4_agreement_103 (lv_at hl 5 rfl) ?_
    obtain ⟨v2, hv2, h⟩ := bi_e h
    refine gw_ki V (va_runV (As := [.int x3, .int x5, .int x4]) (rest := []) ⟨hx, hb, hml, hown, hts⟩ (mX3_meetsNeed (D := D) (a := a) (cA := cA) (u := u) hv2) (cwV 3 hts gcjX4_262 rfl rfl rfl (by decide +kernel) ⟨Nat.le_of_ble_eq_true rfl, Nat.le_of_ble_eq_true rfl⟩) (gw_preV (q0 := 1) (ci := 3) gX_ok C V [.int x3, .int x5, .int x4] rfl rfl) rfl rfl hl.1 rfl (lv_room (Nat.le_of_ble_eq_true rfl)) dX4_agreement_105 ⟨Nat.zero_le _, Nat.zero_le _⟩) (fun H locs V => ?_)
    refine lv_if_eq (tgt := 115) hx hb dX4_agreement_108 (by decide) (fun c3 => ?_) (fun c3 => ?_)
    · have h := if_t c3 h
      refine lv_iconst (v := (0 : Int32)) hx hb dX4_agreement_115 (by decide) ?_
      exact LX4_agreement_116 B C x1 x2 x3 y0 (0 : Int32) _ _ _ V (lv_sub hl [1, 2, 3, 4, 0] rfl) h
    · have h := if_f c3 h
      refine lv_iconst (v := (1 : Int32)) hx hb dX4_agreement_111 (by decide) ?_
      refine lv_goto (tgt := 116) hx hb dX4_agreement_112 (by decide) ?_
      exact LX4_agreement_116 B C x1 x2 x3 y0 (1 : Int32) _ _ _ V (lv_sub hl [1, 2, 3, 4, 0] rfl) h
set_option maxHeartbeats 4000000 in
theorem mX4_agreement {l : Launch} {D : va_G} {a : Nat → Nat} {cA : ClassId} {sz : Nat} {u : g_S} {p1 : Int32} {p2 : Int32} {rv : Int32} (h : fcJ_agreement u p1 p2 = some rv) : gw_Mi D vwCl [(cA, .int)] (cjA a) gX (cjW a cA) l yX4_agreement wxX4_agreement rmX4_agreement sz u [.ref (a 0), .int p1, .int p2] rv u := by
  refine gw_Mof (Qc := fun z => va_Qi (gw_Pi rv u) (gw_W D vwCl (cjW a cA)) (rg (cjA a) z)) (cc := cX4_agreement) (maxL := 13) (ret := (some .int)) (by decide) rfl ?_
  intro p e s m below meth c B C V
  obtain ⟨hx, hb, hml, hown, hts, hr, hlk⟩ := id B
  have hl := lv_entry ([.ref (a 0), .int p1, .int p2]) (n := 13) (Nat.le_of_ble_eq_true rfl)
  rw [lg_entry_eq]
  generalize (lg_sl ([.ref (a 0), .int p1, .int p2]) ++ List.replicate (13 - (lg_sl ([.ref (a 0), .int p1, .int p2])).length) Slot.unset).toArray = ls at hl ⊢
  have hl : lv_has ls 13 [(0, .ref (a 0)), (1, .int p1), (2, .int p2)] := hl
  unfold fcJ_agreement at h
  refine lv_aload_n hx hb dX4_agreement_0 rfl (lv_at hl 0 rfl) ?_
  refine lv_iload_n hx hb dX4_agreement_1 rfl (lv_at hl 1 rfl) ?_
  refine lv_iload_n hx hb dX4_agreement_2 rfl (lv_at hl 2 rfl) ?_
  obtain ⟨v1, hv1, h⟩ := bi_e h
  refine gw_ki V (va_runV (As := [.int p1, .int p2]) (rest := []) ⟨hx, hb, hml, hown, hts⟩ (mX4_isWithinSpan (D := D) (a := a) (cA := cA) (u := u) hv1) (cwV 2 hts gcjX4_238 rfl rfl rfl (by decide +kernel) ⟨Nat.le_of_ble_eq_true rfl, Nat.le_of_ble_eq_true rfl⟩) (gw_preV (q0 := 0) (ci := 4) gX_ok C V [.int p1, .int p2] rfl rfl) rfl rfl hl.1 rfl (lv_room (Nat.le_of_ble_eq_true rfl)) dX4_agreement_3 ⟨Nat.zero_le _, Nat.zero_le _⟩) (fun H locs V => ?_)
  refine lv_if_ne (tgt := 11) hx hb dX4_agreement_6 (by decide) (fun c2 => ?_) (fun c2 => ?_)
  · have h := if_t c2 h
    refine lv_aload_n hx hb dX4_agreement_11 rfl (lv_at hl 0 rfl) ?_
    refine va_get (C := RX4) (T := TX4) (N := 4) (ci := 4) hx hb hts igX4 hown C.1 V.1 0 rfl rfl 2 (by decide) (hts _ kt_158) (fun _ h => h) rfl dX4_agreement_12 ?_
    refine va_get (C := RX0) (T := TX0) (N := 11) (ci := 0) hx hb hts igX0 hown C.1 V.1 3 rfl rfl 2 (by decide) (hts _ kt_81) (fun _ h => h) rfl dX4_agreement_15 ?_
    refine lv_iload_n hx hb dX4_agreement_18 rfl (lv_at hl 2 rfl) ?_
    obtain ⟨i3, h⟩ := ck_e h
    refine va_iald hx hb C.1 V.1 13 0 rfl rfl i3 dX4_agreement_19 ?_
    obtain ⟨w4, ew4, h⟩ := gl_e h
    refine gw_nmi ew4 ?_
    refine lv_istore_n (lv' := [(3, .int w4), (0, .ref (a 0)), (1, .int p1), (2, .int p2)]) hx hb dX4_agreement_20 rfl hl (by decide) rfl (fun ls hl => ?_)
    refine lv_aload_n hx hb dX4_agreement_21 rfl (lv_at hl 1 rfl) ?_
    refine va_get (C := RX4) (T := TX4) (N := 4) (ci := 4) hx hb hts igX4 hown C.1 V.1 0 rfl rfl 0 (by decide) (hts _ kt_156) (fun _ h => h) rfl dX4_agreement_22 ?_
    refine lv_iload_n hx hb dX4_agreement_25 rfl (lv_at hl 0 rfl) ?_
    refine lv_aload_n hx hb dX4_agreement_26 rfl (lv_at hl 1 rfl) ?_
    refine va_get (C := RX4) (T := TX4) (N := 4) (ci := 4) hx hb hts igX4 hown C.1 V.1 0 rfl rfl 2 (by decide) (hts _ kt_158) (fun _ h => h) rfl dX4_agreement_27 ?_
    refine va_get (C := RX0) (T := TX0) (N := 11) (ci := 0) hx hb hts igX0 hown C.1 V.1 3 rfl rfl 4 (by decide) (hts _ kt_85) (fun _ h => h) rfl dX4_agreement_30 ?_
    refine lv_iload_n hx hb dX4_agreement_33 rfl (lv_at hl 2 rfl) ?_
    obtain ⟨i5, h⟩ := ck_e h
    refine va_iald hx hb C.1 V.1 15 0 rfl rfl i5 dX4_agreement_34 ?_
    refine lv_aload_n hx hb dX4_agreement_35 rfl (lv_at hl 1 rfl) ?_
    refine va_get (C := RX4) (T := TX4) (N := 4) (ci := 4) hx hb hts igX4 hown C.1 V.1 0 rfl rfl 2 (by decide) (hts _ kt_158) (fun _ h => h) rfl dX4_agreement_36 ?_
    refine va_get (C := RX0) (T := TX0) (N := 11) (ci := 0) hx hb hts igX0 hown C.1 V.1 3 rfl rfl 4 (by decide) (hts _ kt_85) (fun _ h => h) rfl dX4_agreement_39 ?_
    refine lv_iload_n hx hb dX4_agreement_42 rfl (lv_at hl 3 rfl) ?_
    obtain ⟨i6, h⟩ := ck_e h
    refine va_iald hx hb C.1 V.1 15 0 rfl rfl i6 dX4_agreement_43 ?_
    refine lv_ior hx hb dX4_agreement_44 ?_
    obtain ⟨v7, hv7, h⟩ := bi_e h
    refine gw_ki V (va_runV (As := [.int w4, .int ((u.2 10 p1.toNatClampNeg) ||| (u.2 10 p2.toNatClampNeg))]) (rest := []) ⟨hx, hb, hml, hown, hts⟩ (mX3_weigh (D := D) (a := a) (cA := cA) (u := u) hv7) (cwV 2 hts gcjX4_157 rfl rfl rfl (by decide +kernel) ⟨Nat.le_of_ble_eq_true rfl, Nat.le_of_ble_eq_true rfl⟩) (gw_preV (q0 := 1) (ci := 3) gX_ok C V [.int w4, .int ((u.2 10 p1.toNatClampNeg) ||| (u.2 10 p2.toNatClampNeg))] rfl rfl) rfl rfl hl.1 rfl (lv_room (Nat.le_of_ble_eq_true rfl)) dX4_agreement_45 ⟨Nat.zero_le _, Nat.zero_le _⟩) (fun H locs V => ?_)
    refine lv_istore (lv' := [(4, .int v7), (3, .int w4), (0, .ref (a 0)), (1, .int p1), (2, .int p2)]) hx hb dX4_agreement_48 hl (by decide) rfl (fun ls hl => ?_)
    refine lv_aload_n hx hb dX4_agreement_50 rfl (lv_at hl 2 rfl) ?_
    refine va_get (C := RX4) (T := TX4) (N := 4) (ci := 4) hx hb hts igX4 hown C.1 V.1 0 rfl rfl 0 (by decide) (hts _ kt_156) (fun _ h => h) rfl dX4_agreement_51 ?_
    refine lv_iload_n hx hb dX4_agreement_54 rfl (lv_at hl 1 rfl) ?_
    refine lv_aload_n hx hb dX4_agreement_55 rfl (lv_at hl 2 rfl) ?_
    refine va_get (C := RX4) (T := TX4) (N := 4) (ci := 4) hx hb hts igX4 hown C.1 V.1 0 rfl rfl 2 (by decide) (hts _ kt_158) (fun _ h => h) rfl dX4_agreement_56 ?_
    refine va_get (C := RX0) (T := TX0) (N := 11) (ci := 0) hx hb hts igX0 hown C.1 V.1 3 rfl rfl 4 (by decide) (hts _ kt_85) (fun _ h => h) rfl dX4_agreement_59 ?_
    refine lv_iload_n hx hb dX4_agreement_62 rfl (lv_at hl 3 rfl) ?_
    obtain ⟨i8, h⟩ := ck_e h
    refine va_iald hx hb C.1 V.1 15 0 rfl rfl i8 dX4_agreement_63 ?_
    refine lv_aload_n hx hb dX4_agreement_64 rfl (lv_at hl 2 rfl) ?_
    refine va_get (C := RX4) (T := TX4) (N := 4) (ci := 4) hx hb hts igX4 hown C.1 V.1 0 rfl rfl 2 (by decide) (hts _ kt_158) (fun _ h => h) rfl dX4_agreement_65 ?_
    refine va_get (C := RX0) (T := TX0) (N := 11) (ci := 0) hx hb hts igX0 hown C.1 V.1 3 rfl rfl 4 (by decide) (hts _ kt_85) (fun _ h => h) rfl dX4_agreement_68 ?_
    refine lv_iload_n hx hb dX4_agreement_71 rfl (lv_at hl 4 rfl) ?_
    obtain ⟨i9, h⟩ := ck_e h
    refine va_iald hx hb C.1 V.1 15 0 rfl rfl i9 dX4_agreement_72 ?_
    refine lv_iand hx hb dX4_agreement_73 ?_
    obtain ⟨v10, hv10, h⟩ := bi_e h
    refine gw_ki V (va_runV (As := [.int w4, .int ((u.2 10 p1.toNatClampNeg) &&& (u.2 10 p2.toNatClampNeg))]) (rest := []) ⟨hx, hb, hml, hown, hts⟩ (mX3_weigh (D := D) (a := a) (cA := cA) (u := u) hv10) (cwV 2 hts gcjX4_157 rfl rfl rfl (by decide +kernel) ⟨Nat.le_of_ble_eq_true rfl, Nat.le_of_ble_eq_true rfl⟩) (gw_preV (q0 := 1) (ci := 3) gX_ok C V [.int w4, .int ((u.2 10 p1.toNatClampNeg) &&& (u.2 10 p2.toNatClampNeg))] rfl rfl) rfl rfl hl.1 rfl (lv_room (Nat.le_of_ble_eq_true rfl)) dX4_agreement_74 ⟨Nat.zero_le _, Nat.zero_le _⟩) (fun H locs V => ?_)
    refine lv_istore (lv' := [(5, .int v10), (4, .int v7), (3, .int w4), (0, .ref (a 0)), (1, .int p1), (2, .int p2)]) hx hb dX4_agreement_77 hl (by decide) rfl (fun ls hl => ?_)
    refine lv_iload hx hb dX4_agreement_79 (lv_at hl 1 rfl) ?_
    refine lv_if_le (tgt := 88) hx hb dX4_agreement_81 (by decide) (fun c11 => ?_) (fun c11 => ?_)
    · have h := if_t c11 h
      refine lv_iconst (v := (0 : Int32)) hx hb dX4_agreement_88 (by decide) ?_
      exact LX4_agreement_89 B C p1 p2 w4 v7 v10 (0 : Int32) _ _ _ V (lv_sub hl [3, 4, 5, 2, 1, 0] rfl) h
    · have h := if_f c11 h
      refine lv_iconst (v := (1 : Int32)) hx hb dX4_agreement_84 (by decide) ?_
      refine lv_goto (tgt := 89) hx hb dX4_agreement_85 (by decide) ?_
      exact LX4_agreement_89 B C p1 p2 w4 v7 v10 (1 : Int32) _ _ _ V (lv_sub hl [3, 4, 5, 2, 1, 0] rfl) h
  · have h := if_nn c2 h
    refine lv_iconst (v := (0 : Int32)) hx hb dX4_agreement_9 (by decide) ?_
    exact gw_reti hx hb hr rfl hlk V (Option.some.inj h) rfl dX4_agreement_10
set_option maxHeartbeats 4000000 in
theorem LX4_nearestByPlace_7 {p : Program} {l : Launch} {e : Env} {s : State} {m : MethodId} {below : List Frame} {meth : Method} {c : Code} {args : Array Value} {D : va_G} {a : Nat → Nat} {cA : ClassId} (B : gw_B p s m args meth c cX4_nearestByPlace 8 (some .int) RX4 gT) (C : gw_C D vwCl [(cA, .int)] (cjA a) gX s) {rv : Int32} {u : g_S} : ∀ (n : Nat) (x1 : Int32) (x2 : Int32) (x3 : Int64) (x5 : Int32) (H : Heap) (locs : List Loc) (ls : Array Slot), gw_V D vwCl (cjA a) (cjW a cA) s u H locs → lv_has ls 8 [(0, .ref (a 0)), (1, .int x1), (2, .int x2), (3, .long x3), (5, .int x5)] → fcJ_nearestByPlace_7 u n x1 x2 x3 x5 = some rv → W p l e rmX4_nearestByPlace s m args below meth c H locs 0 0 (gw_Ei D vwCl (cjA a) (cjW a cA) below args s rv u) (F0 m 7 ls []) := by
  obtain ⟨hx, hb, hml, hown, hts, hr, hlk⟩ := id B
  intro n
  induction n with
  | zero =>
    intro x1 x2 x3 x5 H locs ls V hl h
    cases h
  | succ n ih =>
    intro x1 x2 x3 x5 H locs ls V hl h
    rw [fcJ_nearestByPlace_7_s] at h
    refine lv_iload hx hb dX4_nearestByPlace_7 (lv_at hl 4 rfl) ?_
    refine lv_aload_n hx hb dX4_nearestByPlace_9 rfl (lv_at hl 0 rfl) ?_
    refine va_get (C := RX4) (T := TX4) (N := 4) (ci := 4) hx hb hts igX4 hown C.1 V.1 0 rfl rfl 2 (by decide) (hts _ kt_158) (fun _ h => h) rfl dX4_nearestByPlace_10 ?_
    refine va_get (C := RX0) (T := TX0) (N := 11) (ci := 0) hx hb hts igX0 hown C.1 V.1 3 rfl rfl 0 (by decide) (hts _ kt_77) (fun _ h => h) rfl dX4_nearestByPlace_13 ?_
    refine lv_icmp_ge (tgt := 88) hx hb dX4_nearestByPlace_16 (by decide) (fun c1 => ?_) (fun c1 => ?_)
    · have h := if_t c1 h
      refine lv_iload_n hx hb dX4_nearestByPlace_88 rfl (lv_at hl 2 rfl) ?_
      exact gw_reti hx hb hr rfl hlk V (Option.some.inj h) rfl dX4_nearestByPlace_89
    · have h := if_f c1 h
      refine lv_aload_n hx hb dX4_nearestByPlace_19 rfl (lv_at hl 0 rfl) ?_
      refine lv_iload hx hb dX4_nearestByPlace_20 (lv_at hl 4 rfl) ?_
      refine lv_iload_n hx hb dX4_nearestByPlace_22 rfl (lv_at hl 1 rfl) ?_
      obtain ⟨v2, hv2, h⟩ := bi_e h
      refine gw_ki V (va_runV (As := [.int x5, .int x1]) (rest := []) ⟨hx, hb, hml, hown, hts⟩ (mX4_isCandidate (D := D) (a := a) (cA := cA) (u := u) hv2) (cwV 2 hts gcjX4_255 rfl rfl rfl (by decide +kernel) ⟨Nat.le_of_ble_eq_true rfl, Nat.le_of_ble_eq_true rfl⟩) (gw_preV (q0 := 0) (ci := 4) gX_ok C V [.int x5, .int x1] rfl rfl) rfl rfl hl.1 rfl (lv_room (Nat.le_of_ble_eq_true rfl)) dX4_nearestByPlace_23 ⟨Nat.zero_le _, Nat.zero_le _⟩) (fun H locs V => ?_)
      refine lv_if_eq (tgt := 82) hx hb dX4_nearestByPlace_26 (by decide) (fun c3 => ?_) (fun c3 => ?_)
      · have h := if_t c3 h
        refine lv_iinc (v := (x5 + (1 : Int32))) (lv' := [(5, .int (x5 + (1 : Int32))), (0, .ref (a 0)), (1, .int x1), (2, .int x2), (3, .long x3)]) hx hb dX4_nearestByPlace_82 hl (k := 4) rfl rfl (by decide) rfl (fun ls hl => ?_)
        refine lv_goto (tgt := 7) hx hb dX4_nearestByPlace_85 (by decide) ?_
        exact ih x1 x2 x3 (x5 + (1 : Int32)) _ _ _ V (lv_sub hl [1, 2, 3, 4, 0] rfl) h
      · have h := if_f c3 h
        refine lv_aload_n hx hb dX4_nearestByPlace_29 rfl (lv_at hl 0 rfl) ?_
        refine lv_iload hx hb dX4_nearestByPlace_30 (lv_at hl 4 rfl) ?_
        refine lv_iload_n hx hb dX4_nearestByPlace_32 rfl (lv_at hl 1 rfl) ?_
        obtain ⟨v4, hv4, h⟩ := bi_e h
        refine gw_ki V (va_runV (As := [.int x5, .int x1]) (rest := []) ⟨hx, hb, hml, hown, hts⟩ (mX4_agreement (D := D) (a := a) (cA := cA) (u := u) hv4) (cwV 2 hts gcjX4_167 rfl rfl rfl (by decide +kernel) ⟨Nat.le_of_ble_eq_true rfl, Nat.le_of_ble_eq_true rfl⟩) (gw_preV (q0 := 0) (ci := 4) gX_ok C V [.int x5, .int x1] rfl rfl) rfl rfl hl.1 rfl (lv_room (Nat.le_of_ble_eq_true rfl)) dX4_nearestByPlace_33 ⟨Nat.zero_le _, Nat.zero_le _⟩) (fun H locs V => ?_)
        refine lv_iconst (v := (1 : Int32)) hx hb dX4_nearestByPlace_36 (by decide) ?_
        refine lv_icmp_ne (tgt := 82) hx hb dX4_nearestByPlace_37 (by decide) (fun c5 => ?_) (fun c5 => ?_)
        · have h := if_t c5 h
          refine lv_iinc (v := (x5 + (1 : Int32))) (lv' := [(5, .int (x5 + (1 : Int32))), (0, .ref (a 0)), (1, .int x1), (2, .int x2), (3, .long x3)]) hx hb dX4_nearestByPlace_82 hl (k := 4) rfl rfl (by decide) rfl (fun ls hl => ?_)
          refine lv_goto (tgt := 7) hx hb dX4_nearestByPlace_85 (by decide) ?_
          exact ih x1 x2 x3 (x5 + (1 : Int32)) _ _ _ V (lv_sub hl [1, 2, 3, 4, 0] rfl) h
        · have h := if_nn c5 h
          refine lv_aload_n hx hb dX4_nearestByPlace_40 rfl (lv_at hl 0 rfl) ?_
          refine va_get (C := RX4) (T := TX4) (N := 4) (ci := 4) hx hb hts igX4 hown C.1 V.1 0 rfl rfl 2 (by decide) (hts _ kt_158) (fun _ h => h) rfl dX4_nearestByPlace_41 ?_
          refine va_get (C := RX0) (T := TX0) (N := 11) (ci := 0) hx hb hts igX0 hown C.1 V.1 3 rfl rfl 3 (by decide) (hts _ kt_83) (fun _ h => h) rfl dX4_nearestByPlace_44 ?_
          refine lv_iload hx hb dX4_nearestByPlace_47 (lv_at hl 4 rfl) ?_
          obtain ⟨i6, h⟩ := ck_e h
          refine va_iald hx hb C.1 V.1 14 0 rfl rfl i6 dX4_nearestByPlace_49 ?_
          refine lv_aload_n hx hb dX4_nearestByPlace_50 rfl (lv_at hl 0 rfl) ?_
          refine va_get (C := RX4) (T := TX4) (N := 4) (ci := 4) hx hb hts igX4 hown C.1 V.1 0 rfl rfl 2 (by decide) (hts _ kt_158) (fun _ h => h) rfl dX4_nearestByPlace_51 ?_
          refine va_get (C := RX0) (T := TX0) (N := 11) (ci := 0) hx hb hts igX0 hown C.1 V.1 3 rfl rfl 3 (by decide) (hts _ kt_83) (fun _ h => h) rfl dX4_nearestByPlace_54 ?_
          refine lv_iload_n hx hb dX4_nearestByPlace_57 rfl (lv_at hl 1 rfl) ?_
          obtain ⟨i7, h⟩ := ck_e h
          refine va_iald hx hb C.1 V.1 14 0 rfl rfl i7 dX4_nearestByPlace_58 ?_
          obtain ⟨v8, hv8, h⟩ := bi_e h
          refine gw_kl V (va_runS (As := [.int (u.2 9 x5.toNatClampNeg), .int (u.2 9 x1.toNatClampNeg)]) (rest := []) ⟨hx, hb, hml, hown, hts⟩ (mX4_squareBetween (D := D) (a := a) (cA := cA) (u := u) hv8) (cwS 2 hts gcjX4_258 rfl rfl rfl (by decide +kernel) ⟨Nat.le_of_ble_eq_true rfl, Nat.le_of_ble_eq_true rfl⟩) (gw_preS gX_ok C V [.int (u.2 9 x5.toNatClampNeg), .int (u.2 9 x1.toNatClampNeg)]) rfl rfl hl.1 rfl (lv_room (Nat.le_of_ble_eq_true rfl)) dX4_nearestByPlace_59 ⟨Nat.zero_le _, Nat.zero_le _⟩) (fun H locs V => ?_)
          refine lv_lstore (lv' := [(6, .long v8), (0, .ref (a 0)), (1, .int x1), (2, .int x2), (3, .long x3), (5, .int x5)]) hx hb dX4_nearestByPlace_62 hl (by decide) rfl (fun ls hl => ?_)
          refine lv_iload_n hx hb dX4_nearestByPlace_64 rfl (lv_at hl 3 rfl) ?_
          refine lv_iconst (v := (-1 : Int32)) hx hb dX4_nearestByPlace_65 (by decide) ?_
          refine lv_icmp_eq (tgt := 76) hx hb dX4_nearestByPlace_66 (by decide) (fun c9 => ?_) (fun c9 => ?_)
          · have h := if_t c9 h
            refine lv_iload hx hb dX4_nearestByPlace_76 (lv_at hl 5 rfl) ?_
            refine lv_istore_n (lv' := [(2, .int x5), (6, .long v8), (0, .ref (a 0)), (1, .int x1), (3, .long x3), (5, .int x5)]) hx hb dX4_nearestByPlace_78 rfl hl (by decide) rfl (fun ls hl => ?_)
            refine lv_lload hx hb dX4_nearestByPlace_79 (lv_at hl 1 rfl) ?_
            refine lv_lstore_n (lv' := [(3, .long v8), (2, .int x5), (6, .long v8), (0, .ref (a 0)), (1, .int x1), (5, .int x5)]) hx hb dX4_nearestByPlace_81 rfl hl (by decide) rfl (fun ls hl => ?_)
            refine lv_iinc (v := (x5 + (1 : Int32))) (lv' := [(5, .int (x5 + (1 : Int32))), (3, .long v8), (2, .int x5), (6, .long v8), (0, .ref (a 0)), (1, .int x1)]) hx hb dX4_nearestByPlace_82 hl (k := 5) rfl rfl (by decide) rfl (fun ls hl => ?_)
            refine lv_goto (tgt := 7) hx hb dX4_nearestByPlace_85 (by decide) ?_
            exact ih x1 x5 v8 (x5 + (1 : Int32)) _ _ _ V (lv_sub hl [4, 5, 2, 1, 0] rfl) h
          · have h := if_f c9 h
            refine lv_lload hx hb dX4_nearestByPlace_69 (lv_at hl 0 rfl) ?_
            refine lv_lload_n hx hb dX4_nearestByPlace_71 rfl (lv_at hl 4 rfl) ?_
            refine W.lcmp hx hb dX4_nearestByPlace_72 ?_
            refine lv_if_ge (tgt := 82) hx hb dX4_nearestByPlace_73 (by decide) (fun c10 => ?_) (fun c10 => ?_)
            · have h := if_t c10 h
              refine lv_iinc (v := (x5 + (1 : Int32))) (lv' := [(5, .int (x5 + (1 : Int32))), (6, .long v8), (0, .ref (a 0)), (1, .int x1), (2, .int x2), (3, .long x3)]) hx hb dX4_nearestByPlace_82 hl (k := 5) rfl rfl (by decide) rfl (fun ls hl => ?_)
              refine lv_goto (tgt := 7) hx hb dX4_nearestByPlace_85 (by decide) ?_
              exact ih x1 x2 x3 (x5 + (1 : Int32)) _ _ _ V (lv_sub hl [2, 3, 4, 5, 0] rfl) h
            · have h := if_f c10 h
              refine lv_iload hx hb dX4_nearestByPlace_76 (lv_at hl 5 rfl) ?_
              refine lv_istore_n (lv' := [(2, .int x5), (6, .long v8), (0, .ref (a 0)), (1, .int x1), (3, .long x3), (5, .int x5)]) hx hb dX4_nearestByPlace_78 rfl hl (by decide) rfl (fun ls hl => ?_)
              refine lv_lload hx hb dX4_nearestByPlace_79 (lv_at hl 1 rfl) ?_
              refine lv_lstore_n (lv' := [(3, .long v8), (2, .int x5), (6, .long v8), (0, .ref (a 0)), (1, .int x1), (5, .int x5)]) hx hb dX4_nearestByPlace_81 rfl hl (by decide) rfl (fun ls hl => ?_)
              refine lv_iinc (v := (x5 + (1 : Int32))) (lv' := [(5, .int (x5 + (1 : Int32))), (3, .long v8), (2, .int x5), (6, .long v8), (0, .ref (a 0)), (1, .int x1)]) hx hb dX4_nearestByPlace_82 hl (k := 5) rfl rfl (by decide) rfl (fun ls hl => ?_)
              refine lv_goto (tgt := 7) hx hb dX4_nearestByPlace_85 (by decide) ?_
              exact ih x1 x5 v8 (x5 + (1 : Int32)) _ _ _ V (lv_sub hl [4, 5, 2, 1, 0] rfl) h
set_option maxHeartbeats 4000000 in
theorem mX4_nearestByPlace {l : Launch} {D : va_G} {a : Nat → Nat} {cA : ClassId} {sz : Nat} {u : g_S} {p1 : Int32} {rv : Int32} (h : fcJ_nearestByPlace u p1 = some rv) : gw_Mi D vwCl [(cA, .int)] (cjA a) gX (cjW a cA) l yX4_nearestByPlace wxX4_nearestByPlace rmX4_nearestByPlace sz u [.ref (a 0), .int p1] rv u := by
  refine gw_Mof (Qc := fun z => va_Qi (gw_Pi rv u) (gw_W D vwCl (cjW a cA)) (rg (cjA a) z)) (cc := cX4_nearestByPlace) (maxL := 8) (ret := (some .int)) (by decide) rfl ?_
  intro p e s m below meth c B C V
  obtain ⟨hx, hb, hml, hown, hts, hr, hlk⟩ := id B
  have hl := lv_entry ([.ref (a 0), .int p1]) (n := 8) (Nat.le_of_ble_eq_true rfl)
  rw [lg_entry_eq]
  generalize (lg_sl ([.ref (a 0), .int p1]) ++ List.replicate (8 - (lg_sl ([.ref (a 0), .int p1])).length) Slot.unset).toArray = ls at hl ⊢
  have hl : lv_has ls 8 [(0, .ref (a 0)), (1, .int p1)] := hl
  unfold fcJ_nearestByPlace at h
  refine lv_iconst (v := (-1 : Int32)) hx hb dX4_nearestByPlace_0 (by decide) ?_
  refine lv_istore_n (lv' := [(2, .int (-1 : Int32)), (0, .ref (a 0)), (1, .int p1)]) hx hb dX4_nearestByPlace_1 rfl hl (by decide) rfl (fun ls hl => ?_)
  refine lv_lconst (v := (0 : Int64)) hx hb dX4_nearestByPlace_2 (by decide) ?_
  refine lv_lstore_n (lv' := [(3, .long (0 : Int64)), (2, .int (-1 : Int32)), (0, .ref (a 0)), (1, .int p1)]) hx hb dX4_nearestByPlace_3 rfl hl (by decide) rfl (fun ls hl => ?_)
  refine lv_iconst (v := (0 : Int32)) hx hb dX4_nearestByPlace_4 (by decide) ?_
  refine lv_istore (lv' := [(5, .int (0 : Int32)), (3, .long (0 : Int64)), (2, .int (-1 : Int32)), (0, .ref (a 0)), (1, .int p1)]) hx hb dX4_nearestByPlace_5 hl (by decide) rfl (fun ls hl => ?_)
  exact LX4_nearestByPlace_7 B C 200 p1 (-1 : Int32) (0 : Int64) (0 : Int32) _ _ _ V (lv_sub hl [3, 4, 2, 1, 0] rfl) h
