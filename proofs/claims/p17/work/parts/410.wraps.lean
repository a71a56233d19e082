set_option maxHeartbeats 4000000 in
theorem mL_rule {l : Launch} (hl9 : l.stackTraces = false) {D : va_G} {a : Nat → Nat} {ao : Nat} {cA cL : ClassId} {sz : Nat} {u : g_S} {f : Nat → Int64} {p1 : Int32} {p2 : Int32} {p3 : Int32} {p4 : Int32} {p5 : Int32} {rv : Nat × g_S} (h : fcJ_rule u p1 p2 p3 p4 p5 = some rv) (hc : rv.1 = 0 ∨ rv.1 = 1 ∨ rv.1 = 2) : gl_M D vwCl [(cA, .int), (cL, .long)] (lwA a ao) gX (lwW a cA ao cL) l yL_rule wxL_rule rmL_rule 1 6 sz (u, f) [.ref (a 0), .int p1, .int p2, .int p3, .int p4, .int p5] (lwc [1, 2] rv.1) (rv.2, f) := by
  refine gl_Mof (cc := cL_rule) (maxL := 7) (ret := some .int) (hh := [(0, 11, 14, 13), (0, 11, 18, 15)]) (by decide) rfl ?_
  intro p e s m below meth c B htab C hP
  have hS : va_S (rg (lwA a ao) s.heap.size) s.heap s.heap [] := va_S.rf
  obtain ⟨hx, hb, hml, hown, hts, hr, hlk⟩ := id B
  have hl := lv_entry ([.ref (a 0), .int p1, .int p2, .int p3, .int p4, .int p5]) (n := 7) (Nat.le_of_ble_eq_true rfl)
  rw [lg_entry_eq]
  generalize (lg_sl ([.ref (a 0), .int p1, .int p2, .int p3, .int p4, .int p5]) ++ List.replicate (7 - (lg_sl ([.ref (a 0), .int p1, .int p2, .int p3, .int p4, .int p5])).length) Slot.unset).toArray = ls at hl ⊢
  have hl : lv_has ls 7 [(0, .ref (a 0)), (1, .int p1), (2, .int p2), (3, .int p3), (4, .int p4), (5, .int p5)] := hl
  refine lv_aload_n hx hb dL_rule_0 rfl (lv_at hl 0 rfl) ?_
  refine lv_iload_n hx hb dL_rule_1 rfl (lv_at hl 1 rfl) ?_
  refine lv_iload_n hx hb dL_rule_2 rfl (lv_at hl 2 rfl) ?_
  refine lv_iload_n hx hb dL_rule_3 rfl (lv_at hl 3 rfl) ?_
  refine lv_iload hx hb dL_rule_4 (lv_at hl 4 rfl) ?_
  refine lv_iload hx hb dL_rule_6 (lv_at hl 5 rfl) ?_
  refine gz_xkv (w2 := lwW a cA ao cL (rv.2, f)) hS lw_le (vx_runV (As := [.int p1, .int p2, .int p3, .int p4, .int p5]) (rest := []) ⟨hx, hb, hml, hown, hts⟩ (mX4_rule hl9 (D := D) (a := a) (cA := cA) h) (cwV 5 hts glw_7 rfl rfl rfl (by decide +kernel) ⟨Nat.le_of_ble_eq_true rfl, Nat.le_of_ble_eq_true rfl⟩) (gs_preV (q0 := 0) (ci := 4) gX_ok (C.1.sub (tys' := [(cA, .int)]) [0] rfl) (lw_nd C.2.1) C.2.2 (gs_left hP) hS lw_le [.int p1, .int p2, .int p3, .int p4, .int p5] rfl rfl) rfl rfl hl.1 rfl (lv_room (Nat.le_of_ble_eq_true rfl)) dL_rule_8 (gkb _)) (fun H1 h1 hk => gs_app h1 (gs_kept (ar := [ao]) rfl (lw_ao C.2.1) (gs_right hP) hk)) (fun k0 H locs ce qe hP hS hat => ?_) (fun k0 H locs hP hS => ?_)
  · rcases hc with hc | hc | hc
    · exact absurd hc k0
    · rw [hc] at hat
      refine vx_catch (E := exN 1) (name := "java/lang/IllegalArgumentException") hown [] ⟨0, 11, 14, 13⟩ [⟨0, 11, 18, 15⟩] (by rw [htab]; rfl) (fun z hz => nomatch hz) (by decide) (by decide) (hts _ kt_172) (gX_b C.2.2 _ (by decide +kernel)) hat.1 hat.2.1 hat.2.2 ?_
      refine lv_astore (lv' := [(6, .ref qe), (0, .ref (a 0)), (1, .int p1), (2, .int p2), (3, .int p3), (4, .int p4), (5, .int p5)]) hx hb dL_rule_14 hl (by decide) rfl (fun ls hl => ?_)
      refine lv_iconst (v := (1 : Int32)) hx hb dL_rule_16 (by decide) ?_
      exact gl_reti (wd := lwW a cA ao cL) (u := (rv.2, f)) hx hb hr rfl hlk hP hS (by rw [hc]; decide) rfl (Nat.le_of_ble_eq_true rfl) (Nat.le_of_ble_eq_true rfl) dL_rule_17
    · rw [hc] at hat
      have hps : ∀ z ∈ ([⟨0, 11, 14, 13⟩] : List ExceptionTableEntry), covers z 8 = false ∨ (z.catchType ≠ 0 ∧ ∃ nm : String, (Cond.classLink RL z.catchType nm).before ([.ref (a 0), .int p1, .int p2, .int p3, .int p4, .int p5] : List Value).toArray s = true ∧ va_Nc (exN 2) nm s) := by
        intro z hz
        simp only [List.mem_cons, List.not_mem_nil, or_false] at hz
        rcases hz with rfl
        · exact Or.inr ⟨by decide, "java/lang/IllegalArgumentException", (hts _ kt_172), gX_c C.2.2 (by decide +kernel)⟩
      refine vx_catch (E := exN 2) (name := "java/lang/IndexOutOfBoundsException") hown [⟨0, 11, 14, 13⟩] ⟨0, 11, 18, 15⟩ [] (by rw [htab]; rfl) hps (by decide) (by decide) (hts _ kt_173) (gX_b C.2.2 _ (by decide +kernel)) hat.1 hat.2.1 hat.2.2 ?_
      refine lv_astore (lv' := [(6, .ref qe), (0, .ref (a 0)), (1, .int p1), (2, .int p2), (3, .int p3), (4, .int p4), (5, .int p5)]) hx hb dL_rule_18 hl (by decide) rfl (fun ls hl => ?_)
      refine lv_iconst (v := (2 : Int32)) hx hb dL_rule_20 (by decide) ?_
      exact gl_reti (wd := lwW a cA ao cL) (u := (rv.2, f)) hx hb hr rfl hlk hP hS (by rw [hc]; decide) rfl (Nat.le_of_ble_eq_true rfl) (Nat.le_of_ble_eq_true rfl) dL_rule_21
  refine lv_goto (tgt := 22) hx hb dL_rule_11 (by decide) ?_
  refine lv_iconst (v := (0 : Int32)) hx hb dL_rule_22 (by decide) ?_
  exact gl_reti (wd := lwW a cA ao cL) (u := (rv.2, f)) hx hb hr rfl hlk hP hS (by rw [k0]; decide) rfl (Nat.le_of_ble_eq_true rfl) (Nat.le_of_ble_eq_true rfl) dL_rule_23
set_option maxHeartbeats 4000000 in
theorem mL_weight {l : Launch} (hl9 : l.stackTraces = false) {D : va_G} {a : Nat → Nat} {ao : Nat} {cA cL : ClassId} {sz : Nat} {u : g_S} {f : Nat → Int64} {p1 : Int32} {p2 : Int32} {p3 : Int32} {rv : Nat × g_S} (h : fcJ_weight u p1 p2 p3 = some rv) (hc : rv.1 = 0 ∨ rv.1 = 1 ∨ rv.1 = 2) : gl_M D vwCl [(cA, .int), (cL, .long)] (lwA a ao) gX (lwW a cA ao cL) l yL_weight wxL_weight rmL_weight 1 6 sz (u, f) [.ref (a 0), .int p1, .int p2, .int p3] (lwc [1, 2] rv.1) (rv.2, f) := by
  refine gl_Mof (cc := cL_weight) (maxL := 5) (ret := some .int) (hh := [(0, 7, 10, 13), (0, 7, 14, 15)]) (by decide) rfl ?_
  intro p e s m below meth c B htab C hP
  have hS : va_S (rg (lwA a ao) s.heap.size) s.heap s.heap [] := va_S.rf
  obtain ⟨hx, hb, hml, hown, hts, hr, hlk⟩ := id B
  have hl := lv_entry ([.ref (a 0), .int p1, .int p2, .int p3]) (n := 5) (Nat.le_of_ble_eq_true rfl)
  rw [lg_entry_eq]
  generalize (lg_sl ([.ref (a 0), .int p1, .int p2, .int p3]) ++ List.replicate (5 - (lg_sl ([.ref (a 0), .int p1, .int p2, .int p3])).length) Slot.unset).toArray = ls at hl ⊢
  have hl : lv_has ls 5 [(0, .ref (a 0)), (1, .int p1), (2, .int p2), (3, .int p3)] := hl
  refine lv_aload_n hx hb dL_weight_0 rfl (lv_at hl 0 rfl) ?_
  refine lv_iload_n hx hb dL_weight_1 rfl (lv_at hl 1 rfl) ?_
  refine lv_iload_n hx hb dL_weight_2 rfl (lv_at hl 2 rfl) ?_
  refine lv_iload_n hx hb dL_weight_3 rfl (lv_at hl 3 rfl) ?_
  refine gz_xkv (w2 := lwW a cA ao cL (rv.2, f)) hS lw_le (vx_runV (As := [.int p1, .int p2, .int p3]) (rest := []) ⟨hx, hb, hml, hown, hts⟩ (mX4_weight hl9 (D := D) (a := a) (cA := cA) h) (cwV 3 hts glw_17 rfl rfl rfl (by decide +kernel) ⟨Nat.le_of_ble_eq_true rfl, Nat.le_of_ble_eq_true rfl⟩) (gs_preV (q0 := 0) (ci := 4) gX_ok (C.1.sub (tys' := [(cA, .int)]) [0] rfl) (lw_nd C.2.1) C.2.2 (gs_left hP) hS lw_le [.int p1, .int p2, .int p3] rfl rfl) rfl rfl hl.1 rfl (lv_room (Nat.le_of_ble_eq_true rfl)) dL_weight_4 (gkb _)) (fun H1 h1 hk => gs_app h1 (gs_kept (ar := [ao]) rfl (lw_ao C.2.1) (gs_right hP) hk)) (fun k0 H locs ce qe hP hS hat => ?_) (fun k0 H locs hP hS => ?_)
  · rcases hc with hc | hc | hc
    · exact absurd hc k0
    · rw [hc] at hat
      refine vx_catch (E := exN 1) (name := "java/lang/IllegalArgumentException") hown [] ⟨0, 7, 10, 13⟩ [⟨0, 7, 14, 15⟩] (by rw [htab]; rfl) (fun z hz => nomatch hz) (by decide) (by decide) (hts _ kt_172) (gX_b C.2.2 _ (by decide +kernel)) hat.1 hat.2.1 hat.2.2 ?_
      refine lv_astore (lv' := [(4, .ref qe), (0, .ref (a 0)), (1, .int p1), (2, .int p2), (3, .int p3)]) hx hb dL_weight_10 hl (by decide) rfl (fun ls hl => ?_)
      refine lv_iconst (v := (1 : Int32)) hx hb dL_weight_12 (by decide) ?_
      exact gl_reti (wd := lwW a cA ao cL) (u := (rv.2, f)) hx hb hr rfl hlk hP hS (by rw [hc]; decide) rfl (Nat.le_of_ble_eq_true rfl) (Nat.le_of_ble_eq_true rfl) dL_weight_13
    · rw [hc] at hat
      have hps : ∀ z ∈ ([⟨0, 7, 10, 13⟩] : List ExceptionTableEntry), covers z 4 = false ∨ (z.catchType ≠ 0 ∧ ∃ nm : String, (Cond.classLink RL z.catchType nm).before ([.ref (a 0), .int p1, .int p2, .int p3] : List Value).toArray s = true ∧ va_Nc (exN 2) nm s) := by
        intro z hz
        simp only [List.mem_cons, List.not_mem_nil, or_false] at hz
        rcases hz with rfl
        · exact Or.inr ⟨by decide, "java/lang/IllegalArgumentException", (hts _ kt_172), gX_c C.2.2 (by decide +kernel)⟩
      refine vx_catch (E := exN 2) (name := "java/lang/IndexOutOfBoundsException") hown [⟨0, 7, 10, 13⟩] ⟨0, 7, 14, 15⟩ [] (by rw [htab]; rfl) hps (by decide) (by decide) (hts _ kt_173) (gX_b C.2.2 _ (by decide +kernel)) hat.1 hat.2.1 hat.2.2 ?_
      refine lv_astore (lv' := [(4, .ref qe), (0, .ref (a 0)), (1, .int p1), (2, .int p2), (3, .int p3)]) hx hb dL_weight_14 hl (by decide) rfl (fun ls hl => ?_)
      refine lv_iconst (v := (2 : Int32)) hx hb dL_weight_16 (by decide) ?_
      exact gl_reti (wd := lwW a cA ao cL) (u := (rv.2, f)) hx hb hr rfl hlk hP hS (by rw [hc]; decide) rfl (Nat.le_of_ble_eq_true rfl) (Nat.le_of_ble_eq_true rfl) dL_weight_17
  refine lv_goto (tgt := 18) hx hb dL_weight_7 (by decide) ?_
  refine lv_iconst (v := (0 : Int32)) hx hb dL_weight_18 (by decide) ?_
  exact gl_reti (wd := lwW a cA ao cL) (u := (rv.2, f)) hx hb hr rfl hlk hP hS (by rw [k0]; decide) rfl (Nat.le_of_ble_eq_true rfl) (Nat.le_of_ble_eq_true rfl) dL_weight_19
set_option maxHeartbeats 4000000 in
theorem mL_point {l : Launch} (hl9 : l.stackTraces = false) {D : va_G} {a : Nat → Nat} {ao : Nat} {cA cL : ClassId} {sz : Nat} {u : g_S} {f : Nat → Int64} {p1 : Int32} {p2 : Int32} {rv : Nat × Int32 × g_S} (h : fcJ_point u p1 p2 = some rv) (hc : rv.1 = 0 ∨ rv.1 = 1 ∨ rv.1 = 2 ∨ rv.1 = 4) : gl_M D vwCl [(cA, .int), (cL, .long)] (lwA a ao) gX (lwW a cA ao cL) l yL_point wxL_point rmL_point 1 6 sz (u, f) [.ref (a 0), .int p1, .int p2, .ref ao] (lwc [1, 2, 4] rv.1) (rv.2.2, (if rv.1 = 0 then vp_updL f 0 (Int32.toInt64 rv.2.1) else f)) := by
  refine gl_Mof (cc := cL_point) (maxL := 5) (ret := some .int) (hh := [(0, 10, 13, 13), (0, 10, 17, 15), (0, 10, 21, 25)]) (by decide) rfl ?_
  intro p e s m below meth c B htab C hP
  have hS : va_S (rg (lwA a ao) s.heap.size) s.heap s.heap [] := va_S.rf
  obtain ⟨hx, hb, hml, hown, hts, hr, hlk⟩ := id B
  have hl := lv_entry ([.ref (a 0), .int p1, .int p2, .ref ao]) (n := 5) (Nat.le_of_ble_eq_true rfl)
  rw [lg_entry_eq]
  generalize (lg_sl ([.ref (a 0), .int p1, .int p2, .ref ao]) ++ List.replicate (5 - (lg_sl ([.ref (a 0), .int p1, .int p2, .ref ao])).length) Slot.unset).toArray = ls at hl ⊢
  have hl : lv_has ls 5 [(0, .ref (a 0)), (1, .int p1), (2, .int p2), (3, .ref ao)] := hl
  refine lv_aload_n hx hb dL_point_0 rfl (lv_at hl 3 rfl) ?_
  refine lv_iconst (v := (0 : Int32)) hx hb dL_point_1 (by decide) ?_
  refine lv_aload_n hx hb dL_point_2 rfl (lv_at hl 0 rfl) ?_
  refine lv_iload_n hx hb dL_point_3 rfl (lv_at hl 1 rfl) ?_
  refine lv_iload_n hx hb dL_point_4 rfl (lv_at hl 2 rfl) ?_
  refine gz_xki (w2 := lwW a cA ao cL (rv.2.2, f)) hS lw_le (vx_runV (As := [.int p1, .int p2]) (rest := [.int (0 : Int32), .ref ao]) ⟨hx, hb, hml, hown, hts⟩ (mX4_point hl9 (D := D) (a := a) (cA := cA) h) (cwV 2 hts glw_21 rfl rfl rfl (by decide +kernel) ⟨Nat.le_of_ble_eq_true rfl, Nat.le_of_ble_eq_true rfl⟩) (gs_preV (q0 := 0) (ci := 4) gX_ok (C.1.sub (tys' := [(cA, .int)]) [0] rfl) (lw_nd C.2.1) C.2.2 (gs_left hP) hS lw_le [.int p1, .int p2] rfl rfl) rfl rfl hl.1 rfl (lv_room (Nat.le_of_ble_eq_true rfl)) dL_point_5 (gkb _)) (fun H1 h1 hk => gs_app h1 (gs_kept (ar := [ao]) rfl (lw_ao C.2.1) (gs_right hP) hk)) (fun k0 H locs ce qe hP hS hat => ?_) (fun k0 H locs hP hS => ?_)
  · rcases hc with hc | hc | hc | hc
    · exact absurd hc k0
    · rw [hc] at hat
      refine vx_catch (E := exN 1) (name := "java/lang/IllegalArgumentException") hown [] ⟨0, 10, 13, 13⟩ [⟨0, 10, 17, 15⟩, ⟨0, 10, 21, 25⟩] (by rw [htab]; rfl) (fun z hz => nomatch hz) (by decide) (by decide) (hts _ kt_172) (gX_b C.2.2 _ (by decide +kernel)) hat.1 hat.2.1 hat.2.2 ?_
      refine lv_astore (lv' := [(4, .ref qe), (0, .ref (a 0)), (1, .int p1), (2, .int p2), (3, .ref ao)]) hx hb dL_point_13 hl (by decide) rfl (fun ls hl => ?_)
      refine lv_iconst (v := (1 : Int32)) hx hb dL_point_15 (by decide) ?_
      exact gl_reti (wd := lwW a cA ao cL) (u := (rv.2.2, f)) hx hb hr rfl hlk hP hS (by rw [hc]; decide) (by rw [if_neg k0]) (Nat.le_of_ble_eq_true rfl) (Nat.le_of_ble_eq_true rfl) dL_point_16
    · rw [hc] at hat
      have hps : ∀ z ∈ ([⟨0, 10, 13, 13⟩] : List ExceptionTableEntry), covers z 5 = false ∨ (z.catchType ≠ 0 ∧ ∃ nm : String, (Cond.classLink RL z.catchType nm).before ([.ref (a 0), .int p1, .int p2, .ref ao] : List Value).toArray s = true ∧ va_Nc (exN 2) nm s) := by
        intro z hz
        simp only [List.mem_cons, List.not_mem_nil, or_false] at hz
        rcases hz with rfl
        · exact Or.inr ⟨by decide, "java/lang/IllegalArgumentException", (hts _ kt_172), gX_c C.2.2 (by decide +kernel)⟩
      refine vx_catch (E := exN 2) (name := "java/lang/IndexOutOfBoundsException") hown [⟨0, 10, 13, 13⟩] ⟨0, 10, 17, 15⟩ [⟨0, 10, 21, 25⟩] (by rw [htab]; rfl) hps (by decide) (by decide) (hts _ kt_173) (gX_b C.2.2 _ (by decide +kernel)) hat.1 hat.2.1 hat.2.2 ?_
      refine lv_astore (lv' := [(4, .ref qe), (0, .ref (a 0)), (1, .int p1), (2, .int p2), (3, .ref ao)]) hx hb dL_point_17 hl (by decide) rfl (fun ls hl => ?_)
      refine lv_iconst (v := (2 : Int32)) hx hb dL_point_19 (by decide) ?_
      exact gl_reti (wd := lwW a cA ao cL) (u := (rv.2.2, f)) hx hb hr rfl hlk hP hS (by rw [hc]; decide) (by rw [if_neg k0]) (Nat.le_of_ble_eq_true rfl) (Nat.le_of_ble_eq_true rfl) dL_point_20
    · rw [hc] at hat
      have hps : ∀ z ∈ ([⟨0, 10, 13, 13⟩, ⟨0, 10, 17, 15⟩] : List ExceptionTableEntry), covers z 5 = false ∨ (z.catchType ≠ 0 ∧ ∃ nm : String, (Cond.classLink RL z.catchType nm).before ([.ref (a 0), .int p1, .int p2, .ref ao] : List Value).toArray s = true ∧ va_Nc (exN 4) nm s) := by
        intro z hz
        simp only [List.mem_cons, List.not_mem_nil, or_false] at hz
        rcases hz with rfl | rfl
        · exact Or.inr ⟨by decide, "java/lang/IllegalArgumentException", (hts _ kt_172), gX_c C.2.2 (by decide +kernel)⟩
        · exact Or.inr ⟨by decide, "java/lang/IndexOutOfBoundsException", (hts _ kt_173), gX_c C.2.2 (by decide +kernel)⟩
      refine vx_catch (E := exN 4) (name := "java/lang/UnsupportedOperationException") hown [⟨0, 10, 13, 13⟩, ⟨0, 10, 17, 15⟩] ⟨0, 10, 21, 25⟩ [] (by rw [htab]; rfl) hps (by decide) (by decide) (hts _ kt_284) (gX_b C.2.2 _ (by decide +kernel)) hat.1 hat.2.1 hat.2.2 ?_
      refine lv_astore (lv' := [(4, .ref qe), (0, .ref (a 0)), (1, .int p1), (2, .int p2), (3, .ref ao)]) hx hb dL_point_21 hl (by decide) rfl (fun ls hl => ?_)
      refine lv_iconst (v := (3 : Int32)) hx hb dL_point_23 (by decide) ?_
      exact gl_reti (wd := lwW a cA ao cL) (u := (rv.2.2, f)) hx hb hr rfl hlk hP hS (by rw [hc]; decide) (by rw [if_neg k0]) (Nat.le_of_ble_eq_true rfl) (Nat.le_of_ble_eq_true rfl) dL_point_24
  refine lv_i2l (v := Int32.toInt64 rv.2.1) hx hb dL_point_8 rfl ?_
  refine gl_last (wd := lwW a cA ao cL) (u := (rv.2.2, f)) (u' := (rv.2.2, (if rv.1 = 0 then vp_updL f 0 (Int32.toInt64 rv.2.1) else f))) hx hb (lwW_as a cA ao cL) C hP hS 28 1 rfl rfl (by unfold vp_in; decide) (by rw [if_pos k0]; rfl) dL_point_9 (fun H locs hP hS => ?_)
  refine lv_goto (tgt := 25) hx hb dL_point_10 (by decide) ?_
  refine lv_iconst (v := (0 : Int32)) hx hb dL_point_25 (by decide) ?_
  exact gl_reti (wd := lwW a cA ao cL) (u := (rv.2.2, (if rv.1 = 0 then vp_updL f 0 (Int32.toInt64 rv.2.1) else f))) hx hb hr rfl hlk hP hS (by rw [k0]; decide) rfl (Nat.le_of_ble_eq_true rfl) (Nat.le_of_ble_eq_true rfl) dL_point_26
set_option maxHeartbeats 4000000 in
theorem mL_call {l : Launch} (hl9 : l.stackTraces = false) {D : va_G} {a : Nat → Nat} {ao : Nat} {cA cL : ClassId} {sz : Nat} {u : g_S} {f : Nat → Int64} {p1 : Int32} {p2 : Int32} {p3 : Int32} {p4 : Int32} {p5 : Int32} {p6 : Int32} {rv : Nat × Int32 × g_S} (h : fcJ_call u p1 p2 p3 p4 p5 p6 = some rv) (hc : rv.1 = 0 ∨ rv.1 = 1 ∨ rv.1 = 2 ∨ rv.1 = 4) : gl_M D vwCl [(cA, .int), (cL, .long)] (lwA a ao) gX (lwW a cA ao cL) l yL_call wxL_call rmL_call 1 6 sz (u, f) [.ref (a 0), .int p1, .int p2, .int p3, .int p4, .int p5, .int p6, .ref ao] (lwc [1, 2, 4] rv.1) (rv.2.2, (if rv.1 = 0 then vp_updL f 0 (Int32.toInt64 rv.2.1) else f)) := by
  refine gl_Mof (cc := cL_call) (maxL := 9) (ret := some .int) (hh := [(0, 18, 21, 13), (0, 18, 25, 15), (0, 18, 29, 25)]) (by decide) rfl ?_
  intro p e s m below meth c B htab C hP
  have hS : va_S (rg (lwA a ao) s.heap.size) s.heap s.heap [] := va_S.rf
  obtain ⟨hx, hb, hml, hown, hts, hr, hlk⟩ := id B
  have hl := lv_entry ([.ref (a 0), .int p1, .int p2, .int p3, .int p4, .int p5, .int p6, .ref ao]) (n := 9) (Nat.le_of_ble_eq_true rfl)
  rw [lg_entry_eq]
  generalize (lg_sl ([.ref (a 0), .int p1, .int p2, .int p3, .int p4, .int p5, .int p6, .ref ao]) ++ List.replicate (9 - (lg_sl ([.ref (a 0), .int p1, .int p2, .int p3, .int p4, .int p5, .int p6, .ref ao])).length) Slot.unset).toArray = ls at hl ⊢
  have hl : lv_has ls 9 [(0, .ref (a 0)), (1, .int p1), (2, .int p2), (3, .int p3), (4, .int p4), (5, .int p5), (6, .int p6), (7, .ref ao)] := hl
  refine lv_aload hx hb dL_call_0 (lv_at hl 7 rfl) ?_
  refine lv_iconst (v := (0 : Int32)) hx hb dL_call_2 (by decide) ?_
  refine lv_aload_n hx hb dL_call_3 rfl (lv_at hl 0 rfl) ?_
  refine lv_iload_n hx hb dL_call_4 rfl (lv_at hl 1 rfl) ?_
  refine lv_iload_n hx hb dL_call_5 rfl (lv_at hl 2 rfl) ?_
  refine lv_iload_n hx hb dL_call_6 rfl (lv_at hl 3 rfl) ?_
  refine lv_iload hx hb dL_call_7 (lv_at hl 4 rfl) ?_
  refine lv_iload hx hb dL_call_9 (lv_at hl 5 rfl) ?_
  refine lv_iload hx hb dL_call_11 (lv_at hl 6 rfl) ?_
  refine gz_xki (w2 := lwW a cA ao cL (rv.2.2, f)) hS lw_le (vx_runV (As := [.int p1, .int p2, .int p3, .int p4, .int p5, .int p6]) (rest := [.int (0 : Int32), .ref ao]) ⟨hx, hb, hml, hown, hts⟩ (mX4_call hl9 (D := D) (a := a) (cA := cA) h) (cwV 6 hts glw_27 rfl rfl rfl (by decide +kernel) ⟨Nat.le_of_ble_eq_true rfl, Nat.le_of_ble_eq_true rfl⟩) (gs_preV (q0 := 0) (ci := 4) gX_ok (C.1.sub (tys' := [(cA, .int)]) [0] rfl) (lw_nd C.2.1) C.2.2 (gs_left hP) hS lw_le [.int p1, .int p2, .int p3, .int p4, .int p5, .int p6] rfl rfl) rfl rfl hl.1 rfl (lv_room (Nat.le_of_ble_eq_true rfl)) dL_call_13 (gkb _)) (fun H1 h1 hk => gs_app h1 (gs_kept (ar := [ao]) rfl (lw_ao C.2.1) (gs_right hP) hk)) (fun k0 H locs ce qe hP hS hat => ?_) (fun k0 H locs hP hS => ?_)
  · rcases hc with hc | hc | hc | hc
    · exact absurd hc k0
    · rw [hc] at hat
      refine vx_catch (E := exN 1) (name := "java/lang/IllegalArgumentException") hown [] ⟨0, 18, 21, 13⟩ [⟨0, 18, 25, 15⟩, ⟨0, 18, 29, 25⟩] (by rw [htab]; rfl) (fun z hz => nomatch hz) (by decide) (by decide) (hts _ kt_172) (gX_b C.2.2 _ (by decide +kernel)) hat.1 hat.2.1 hat.2.2 ?_
      refine lv_astore (lv' := [(8, .ref qe), (0, .ref (a 0)), (1, .int p1), (2, .int p2), (3, .int p3), (4, .int p4), (5, .int p5), (6, .int p6), (7, .ref ao)]) hx hb dL_call_21 hl (by decide) rfl (fun ls hl => ?_)
      refine lv_iconst (v := (1 : Int32)) hx hb dL_call_23 (by decide) ?_
      exact gl_reti (wd := lwW a cA ao cL) (u := (rv.2.2, f)) hx hb hr rfl hlk hP hS (by rw [hc]; decide) (by rw [if_neg k0]) (Nat.le_of_ble_eq_true rfl) (Nat.le_of_ble_eq_true rfl) dL_call_24
    · rw [hc] at hat
      have hps : ∀ z ∈ ([⟨0, 18, 21, 13⟩] : List ExceptionTableEntry), covers z 13 = false ∨ (z.catchType ≠ 0 ∧ ∃ nm : String, (Cond.classLink RL z.catchType nm).before ([.ref (a 0), .int p1, .int p2, .int p3, .int p4, .int p5, .int p6, .ref ao] : List Value).toArray s = true ∧ va_Nc (exN 2) nm s) := by
        intro z hz
        simp only [List.mem_cons, List.not_mem_nil, or_false] at hz
        rcases hz with rfl
        · exact Or.inr ⟨by decide, "java/lang/IllegalArgumentException", (hts _ kt_172), gX_c C.2.2 (by decide +kernel)⟩
      refine vx_catch (E := exN 2) (name := "java/lang/IndexOutOfBoundsException") hown [⟨0, 18, 21, 13⟩] ⟨0, 18, 25, 15⟩ [⟨0, 18, 29, 25⟩] (by rw [htab]; rfl) hps (by decide) (by decide) (hts _ kt_173) (gX_b C.2.2 _ (by decide +kernel)) hat.1 hat.2.1 hat.2.2 ?_
      refine lv_astore (lv' := [(8, .ref qe), (0, .ref (a 0)), (1, .int p1), (2, .int p2), (3, .int p3), (4, .int p4), (5, .int p5), (6, .int p6), (7, .ref ao)]) hx hb dL_call_25 hl (by decide) rfl (fun ls hl => ?_)
      refine lv_iconst (v := (2 : Int32)) hx hb dL_call_27 (by decide) ?_
      exact gl_reti (wd := lwW a cA ao cL) (u := (rv.2.2, f)) hx hb hr rfl hlk hP hS (by rw [hc]; decide) (by rw [if_neg k0]) (Nat.le_of_ble_eq_true rfl) (Nat.le_of_ble_eq_true rfl) dL_call_28
    · rw [hc] at hat
      have hps : ∀ z ∈ ([⟨0, 18, 21, 13⟩, ⟨0, 18, 25, 15⟩] : List ExceptionTableEntry), covers z 13 = false ∨ (z.catchType ≠ 0 ∧ ∃ nm : String, (Cond.classLink RL z.catchType nm).before ([.ref (a 0), .int p1, .int p2, .int p3, .int p4, .int p5, .int p6, .ref ao] : List Value).toArray s = true ∧ va_Nc (exN 4) nm s) := by
        intro z hz
        simp only [List.mem_cons, List.not_mem_nil, or_false] at hz
        rcases hz with rfl | rfl
        · exact Or.inr ⟨by decide, "java/lang/IllegalArgumentException", (hts _ kt_172), gX_c C.2.2 (by decide +kernel)⟩
        · exact Or.inr ⟨by decide, "java/lang/IndexOutOfBoundsException", (hts _ kt_173), gX_c C.2.2 (by decide +kernel)⟩
      refine vx_catch (E := exN 4) (name := "java/lang/UnsupportedOperationException") hown [⟨0, 18, 21, 13⟩, ⟨0, 18, 25, 15⟩] ⟨0, 18, 29, 25⟩ [] (by rw [htab]; rfl) hps (by decide) (by decide) (hts _ kt_284) (gX_b C.2.2 _ (by decide +kernel)) hat.1 hat.2.1 hat.2.2 ?_
      refine lv_astore (lv' := [(8, .ref qe), (0, .ref (a 0)), (1, .int p1), (2, .int p2), (3, .int p3), (4, .int p4), (5, .int p5), (6, .int p6), (7, .ref ao)]) hx hb dL_call_29 hl (by decide) rfl (fun ls hl => ?_)
      refine lv_iconst (v := (3 : Int32)) hx hb dL_call_31 (by decide) ?_
      exact gl_reti (wd := lwW a cA ao cL) (u := (rv.2.2, f)) hx hb hr rfl hlk hP hS (by rw [hc]; decide) (by rw [if_neg k0]) (Nat.le_of_ble_eq_true rfl) (Nat.le_of_ble_eq_true rfl) dL_call_32
  refine lv_i2l (v := Int32.toInt64 rv.2.1) hx hb dL_call_16 rfl ?_
  refine gl_last (wd := lwW a cA ao cL) (u := (rv.2.2, f)) (u' := (rv.2.2, (if rv.1 = 0 then vp_updL f 0 (Int32.toInt64 rv.2.1) else f))) hx hb (lwW_as a cA ao cL) C hP hS 28 1 rfl rfl (by unfold vp_in; decide) (by rw [if_pos k0]; rfl) dL_call_17 (fun H locs hP hS => ?_)
  refine lv_goto (tgt := 33) hx hb dL_call_18 (by decide) ?_
  refine lv_iconst (v := (0 : Int32)) hx hb dL_call_33 (by decide) ?_
  exact gl_reti (wd := lwW a cA ao cL) (u := (rv.2.2, (if rv.1 = 0 then vp_updL f 0 (Int32.toInt64 rv.2.1) else f))) hx hb hr rfl hlk hP hS (by rw [k0]; decide) rfl (Nat.le_of_ble_eq_true rfl) (Nat.le_of_ble_eq_true rfl) dL_call_34
