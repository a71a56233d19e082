set_option maxHeartbeats 4000000 in
theorem mL_reasonFor {l : Launch} (hl9 : l.stackTraces = false) {D : va_G} {a : Nat → Nat} {ao : Nat} {cA cL : ClassId} {sz : Nat} {u : g_S} {f : Nat → Int64} {p1 : Int32} {p2 : Int32} {p3 : Int32} {p4 : Int32} {p5 : Int32} {p6 : Int32} {rv : Nat × Int32 × g_S} (h : fcJ_reasonFor u p1 p2 p3 p4 p5 p6 = some rv) (hc : rv.1 = 0 ∨ rv.1 = 1 ∨ rv.1 = 2) : gl_M D vwCl [(cA, .int), (cL, .long)] (lwA a ao) gX (lwW a cA ao cL) l yL_reasonFor wxL_reasonFor rmL_reasonFor 1 6 sz (u, f) [.ref (a 0), .int p1, .int p2, .int p3, .int p4, .int p5, .int p6, .ref ao] (lwc [1, 2] rv.1) (rv.2.2, (if rv.1 = 0 then vp_updL f 0 (Int32.toInt64 rv.2.1) else f)) := by
  refine gl_Mof (cc := cL_reasonFor) (maxL := 9) (ret := some .int) (hh := [(0, 18, 21, 13), (0, 18, 25, 15)]) (by decide) rfl ?_
  intro p e s m below meth c B htab C hP
  have hS : va_S (rg (lwA a ao) s.heap.size) s.heap s.heap [] := va_S.rf
  obtain ⟨hx, hb, hml, hown, hts, hr, hlk⟩ := id B
  have hl := lv_entry ([.ref (a 0), .int p1, .int p2, .int p3, .int p4, .int p5, .int p6, .ref ao]) (n := 9) (Nat.le_of_ble_eq_true rfl)
  rw [lg_entry_eq]
  generalize (lg_sl ([.ref (a 0), .int p1, .int p2, .int p3, .int p4, .int p5, .int p6, .ref ao]) ++ List.replicate (9 - (lg_sl ([.ref (a 0), .int p1, .int p2, .int p3, .int p4, .int p5, .int p6, .ref ao])).length) Slot.unset).toArray = ls at hl ⊢
  have hl : lv_has ls 9 [(0, .ref (a 0)), (1, .int p1), (2, .int p2), (3, .int p3), (4, .int p4), (5, .int p5), (6, .int p6), (7, .ref ao)] := hl
  refine lv_aload hx hb dL_reasonFor_0 (lv_at hl 7 rfl) ?_
  refine lv_iconst (v := (0 : Int32)) hx hb dL_reasonFor_2 (by decide) ?_
  refine lv_aload_n hx hb dL_reasonFor_3 rfl (lv_at hl 0 rfl) ?_
  refine lv_iload_n hx hb dL_reasonFor_4 rfl (lv_at hl 1 rfl) ?_
  refine lv_iload_n hx hb dL_reasonFor_5 rfl (lv_at hl 2 rfl) ?_
  refine lv_iload_n hx hb dL_reasonFor_6 rfl (lv_at hl 3 rfl) ?_
  refine lv_iload hx hb dL_reasonFor_7 (lv_at hl 4 rfl) ?_
  refine lv_iload hx hb dL_reasonFor_9 (lv_at hl 5 rfl) ?_
  refine lv_iload hx hb dL_reasonFor_11 (lv_at hl 6 rfl) ?_
  refine gz_xki (w2 := lwW a cA ao cL (rv.2.2, f)) hS lw_le (vx_runV (As := [.int p1, .int p2, .int p3, .int p4, .int p5, .int p6]) (rest := [.int (0 : Int32), .ref ao]) ⟨hx, hb, hml, hown, hts⟩ (mX4_reasonFor hl9 (D := D) (a := a) (cA := cA) h) (cwV 6 hts glw_31 rfl rfl rfl (by decide +kernel) ⟨Nat.le_of_ble_eq_true rfl, Nat.le_of_ble_eq_true rfl⟩) (gs_preV (q0 := 0) (ci := 4) gX_ok (C.1.sub (tys' := [(cA, .int)]) [0] rfl) (lw_nd C.2.1) C.2.2 (gs_left hP) hS lw_le [.int p1, .int p2, .int p3, .int p4, .int p5, .int p6] rfl rfl) rfl rfl hl.1 rfl (lv_room (Nat.le_of_ble_eq_true rfl)) dL_reasonFor_13 (gkb _)) (fun H1 h1 hk => gs_app h1 (gs_kept (ar := [ao]) rfl (lw_ao C.2.1) (gs_right hP) hk)) (fun k0 H locs ce qe hP hS hat => ?_) (fun k0 H locs hP hS => ?_)
  · rcases hc with hc | hc | hc
    · exact absurd hc k0
    · rw [hc] at hat
      refine vx_catch (E := exN 1) (name := "java/lang/IllegalArgumentException") hown [] ⟨0, 18, 21, 13⟩ [⟨0, 18, 25, 15⟩] (by rw [htab]; rfl) (fun z hz => nomatch hz) (by decide) (by decide) (hts _ kt_172) (gX_b C.2.2 _ (by decide +kernel)) hat.1 hat.2.1 hat.2.2 ?_
      refine lv_astore (lv' := [(8, .ref qe), (0, .ref (a 0)), (1, .int p1), (2, .int p2), (3, .int p3), (4, .int p4), (5, .int p5), (6, .int p6), (7, .ref ao)]) hx hb dL_reasonFor_21 hl (by decide) rfl (fun ls hl => ?_)
      refine lv_iconst (v := (1 : Int32)) hx hb dL_reasonFor_23 (by decide) ?_
      exact gl_reti (wd := lwW a cA ao cL) (u := (rv.2.2, f)) hx hb hr rfl hlk hP hS (by rw [hc]; decide) (by rw [if_neg k0]) (Nat.le_of_ble_eq_true rfl) (Nat.le_of_ble_eq_true rfl) dL_reasonFor_24
    · rw [hc] at hat
      have hps : ∀ z ∈ ([⟨0, 18, 21, 13⟩] : List ExceptionTableEntry), covers z 13 = false ∨ (z.catchType ≠ 0 ∧ ∃ nm : String, (Cond.classLink RL z.catchType nm).before ([.ref (a 0), .int p1, .int p2, .int p3, .int p4, .int p5, .int p6, .ref ao] : List Value).toArray s = true ∧ va_Nc (exN 2) nm s) := by
        intro z hz
        simp only [List.mem_cons, List.not_mem_nil, or_false] at hz
        rcases hz with rfl
        · exact Or.inr ⟨by decide, "java/lang/IllegalArgumentException", (hts _ kt_172), gX_c C.2.2 (by decide +kernel)⟩
      refine vx_catch (E := exN 2) (name := "java/lang/IndexOutOfBoundsException") hown [⟨0, 18, 21, 13⟩] ⟨0, 18, 25, 15⟩ [] (by rw [htab]; rfl) hps (by decide) (by decide) (hts _ kt_173) (gX_b C.2.2 _ (by decide +kernel)) hat.1 hat.2.1 hat.2.2 ?_
      refine lv_astore (lv' := [(8, .ref qe), (0, .ref (a 0)), (1, .int p1), (2, .int p2), (3, .int p3), (4, .int p4), (5, .int p5), (6, .int p6), (7, .ref ao)]) hx hb dL_reasonFor_25 hl (by decide) rfl (fun ls hl => ?_)
      refine lv_iconst (v := (2 : Int32)) hx hb dL_reasonFor_27 (by decide) ?_
      exact gl_reti (wd := lwW a cA ao cL) (u := (rv.2.2, f)) hx hb hr rfl hlk hP hS (by rw [hc]; decide) (by rw [if_neg k0]) (Nat.le_of_ble_eq_true rfl) (Nat.le_of_ble_eq_true rfl) dL_reasonFor_28
  refine lv_i2l (v := Int32.toInt64 rv.2.1) hx hb dL_reasonFor_16 rfl ?_
  refine gl_last (wd := lwW a cA ao cL) (u := (rv.2.2, f)) (u' := (rv.2.2, (if rv.1 = 0 then vp_updL f 0 (Int32.toInt64 rv.2.1) else f))) hx hb (lwW_as a cA ao cL) C hP hS 28 1 rfl rfl (by unfold vp_in; decide) (by rw [if_pos k0]; rfl) dL_reasonFor_17 (fun H locs hP hS => ?_)
  refine lv_goto (tgt := 29) hx hb dL_reasonFor_18 (by decide) ?_
  refine lv_iconst (v := (0 : Int32)) hx hb dL_reasonFor_29 (by decide) ?_
  exact gl_reti (wd := lwW a cA ao cL) (u := (rv.2.2, (if rv.1 = 0 then vp_updL f 0 (Int32.toInt64 rv.2.1) else f))) hx hb hr rfl hlk hP hS (by rw [k0]; decide) rfl (Nat.le_of_ble_eq_true rfl) (Nat.le_of_ble_eq_true rfl) dL_reasonFor_30
set_option maxHeartbeats 4000000 in
theorem mL_mark {l : Launch} (hl9 : l.stackTraces = false) {D : va_G} {a : Nat → Nat} {ao : Nat} {cA cL : ClassId} {sz : Nat} {u : g_S} {f : Nat → Int64} {p1 : Int32} {p2 : Int32} {rv : Nat × g_S} (h : fcJ_mark u p1 p2 = some rv) (hc : rv.1 = 0 ∨ rv.1 = 1 ∨ rv.1 = 2) : gl_M D vwCl [(cA, .int), (cL, .long)] (lwA a ao) gX (lwW a cA ao cL) l yL_mark wxL_mark rmL_mark 1 6 sz (u, f) [.ref (a 0), .int p1, .int p2] (lwc [1, 2] rv.1) (rv.2, f) := by
  refine gl_Mof (cc := cL_mark) (maxL := 4) (ret := some .int) (hh := [(0, 6, 9, 13), (0, 6, 12, 15)]) (by decide) rfl ?_
  intro p e s m below meth c B htab C hP
  have hS : va_S (rg (lwA a ao) s.heap.size) s.heap s.heap [] := va_S.rf
  obtain ⟨hx, hb, hml, hown, hts, hr, hlk⟩ := id B
  have hl := lv_entry ([.ref (a 0), .int p1, .int p2]) (n := 4) (Nat.le_of_ble_eq_true rfl)
  rw [lg_entry_eq]
  generalize (lg_sl ([.ref (a 0), .int p1, .int p2]) ++ List.replicate (4 - (lg_sl ([.ref (a 0), .int p1, .int p2])).length) Slot.unset).toArray = ls at hl ⊢
  have hl : lv_has ls 4 [(0, .ref (a 0)), (1, .int p1), (2, .int p2)] := hl
  refine lv_aload_n hx hb dL_mark_0 rfl (lv_at hl 0 rfl) ?_
  refine lv_iload_n hx hb dL_mark_1 rfl (lv_at hl 1 rfl) ?_
  refine lv_iload_n hx hb dL_mark_2 rfl (lv_at hl 2 rfl) ?_
  refine gz_xkv (w2 := lwW a cA ao cL (rv.2, f)) hS lw_le (vx_runV (As := [.int p1, .int p2]) (rest := []) ⟨hx, hb, hml, hown, hts⟩ (mX4_mark hl9 (D := D) (a := a) (cA := cA) h) (cwV 2 hts glw_34 rfl rfl rfl (by decide +kernel) ⟨Nat.le_of_ble_eq_true rfl, Nat.le_of_ble_eq_true rfl⟩) (gs_preV (q0 := 0) (ci := 4) gX_ok (C.1.sub (tys' := [(cA, .int)]) [0] rfl) (lw_nd C.2.1) C.2.2 (gs_left hP) hS lw_le [.int p1, .int p2] rfl rfl) rfl rfl hl.1 rfl (lv_room (Nat.le_of_ble_eq_true rfl)) dL_mark_3 (gkb _)) (fun H1 h1 hk => gs_app h1 (gs_kept (ar := [ao]) rfl (lw_ao C.2.1) (gs_right hP) hk)) (fun k0 H locs ce qe hP hS hat => ?_) (fun k0 H locs hP hS => ?_)
  · rcases hc with hc | hc | hc
    · exact absurd hc k0
    · rw [hc] at hat
      refine vx_catch (E := exN 1) (name := "java/lang/IllegalArgumentException") hown [] ⟨0, 6, 9, 13⟩ [⟨0, 6, 12, 15⟩] (by rw [htab]; rfl) (fun z hz => nomatch hz) (by decide) (by decide) (hts _ kt_172) (gX_b C.2.2 _ (by decide +kernel)) hat.1 hat.2.1 hat.2.2 ?_
      refine lv_astore_n (lv' := [(3, .ref qe), (0, .ref (a 0)), (1, .int p1), (2, .int p2)]) hx hb dL_mark_9 rfl hl (by decide) rfl (fun ls hl => ?_)
      refine lv_iconst (v := (1 : Int32)) hx hb dL_mark_10 (by decide) ?_
      exact gl_reti (wd := lwW a cA ao cL) (u := (rv.2, f)) hx hb hr rfl hlk hP hS (by rw [hc]; decide) rfl (Nat.le_of_ble_eq_true rfl) (Nat.le_of_ble_eq_true rfl) dL_mark_11
    · rw [hc] at hat
      have hps : ∀ z ∈ ([⟨0, 6, 9, 13⟩] : List ExceptionTableEntry), covers z 3 = false ∨ (z.catchType ≠ 0 ∧ ∃ nm : String, (Cond.classLink RL z.catchType nm).before ([.ref (a 0), .int p1, .int p2] : List Value).toArray s = true ∧ va_Nc (exN 2) nm s) := by
        intro z hz
        simp only [List.mem_cons, List.not_mem_nil, or_false] at hz
        rcases hz with rfl
        · exact Or.inr ⟨by decide, "java/lang/IllegalArgumentException", (hts _ kt_172), gX_c C.2.2 (by decide +kernel)⟩
      refine vx_catch (E := exN 2) (name := "java/lang/IndexOutOfBoundsException") hown [⟨0, 6, 9, 13⟩] ⟨0, 6, 12, 15⟩ [] (by rw [htab]; rfl) hps (by decide) (by decide) (hts _ kt_173) (gX_b C.2.2 _ (by decide +kernel)) hat.1 hat.2.1 hat.2.2 ?_
      refine lv_astore_n (lv' := [(3, .ref qe), (0, .ref (a 0)), (1, .int p1), (2, .int p2)]) hx hb dL_mark_12 rfl hl (by decide) rfl (fun ls hl => ?_)
      refine lv_iconst (v := (2 : Int32)) hx hb dL_mark_13 (by decide) ?_
      exact gl_reti (wd := lwW a cA ao cL) (u := (rv.2, f)) hx hb hr rfl hlk hP hS (by rw [hc]; decide) rfl (Nat.le_of_ble_eq_true rfl) (Nat.le_of_ble_eq_true rfl) dL_mark_14
  refine lv_goto (tgt := 15) hx hb dL_mark_6 (by decide) ?_
  refine lv_iconst (v := (0 : Int32)) hx hb dL_mark_15 (by decide) ?_
  exact gl_reti (wd := lwW a cA ao cL) (u := (rv.2, f)) hx hb hr rfl hlk hP hS (by rw [k0]; decide) rfl (Nat.le_of_ble_eq_true rfl) (Nat.le_of_ble_eq_true rfl) dL_mark_16
set_option maxHeartbeats 4000000 in
theorem mL_split {l : Launch} (hl9 : l.stackTraces = false) {D : va_G} {a : Nat → Nat} {ao : Nat} {cA cL : ClassId} {sz : Nat} {u : g_S} {f : Nat → Int64} {p1 : Int32} {rv : Nat × Int32 × g_S} (h : fcJ_split u p1 = some rv) (hc : rv.1 = 0 ∨ rv.1 = 1 ∨ rv.1 = 3 ∨ rv.1 = 4) : gl_M D vwCl [(cA, .int), (cL, .long)] (lwA a ao) gX (lwW a cA ao cL) l yL_split wxL_split rmL_split 1 6 sz (u, f) [.ref (a 0), .int p1, .ref ao] (lwc [1, 3, 4] rv.1) (rv.2.2, (if rv.1 = 0 then vp_updL f 0 (Int32.toInt64 rv.2.1) else f)) := by
  refine gl_Mof (cc := cL_split) (maxL := 4) (ret := some .int) (hh := [(0, 9, 12, 13), (0, 9, 15, 42), (0, 9, 18, 25)]) (by decide) rfl ?_
  intro p e s m below meth c B htab C hP
  have hS : va_S (rg (lwA a ao) s.heap.size) s.heap s.heap [] := va_S.rf
  obtain ⟨hx, hb, hml, hown, hts, hr, hlk⟩ := id B
  have hl := lv_entry ([.ref (a 0), .int p1, .ref ao]) (n := 4) (Nat.le_of_ble_eq_true rfl)
  rw [lg_entry_eq]
  generalize (lg_sl ([.ref (a 0), .int p1, .ref ao]) ++ List.replicate (4 - (lg_sl ([.ref (a 0), .int p1, .ref ao])).length) Slot.unset).toArray = ls at hl ⊢
  have hl : lv_has ls 4 [(0, .ref (a 0)), (1, .int p1), (2, .ref ao)] := hl
  refine lv_aload_n hx hb dL_split_0 rfl (lv_at hl 2 rfl) ?_
  refine lv_iconst (v := (0 : Int32)) hx hb dL_split_1 (by decide) ?_
  refine lv_aload_n hx hb dL_split_2 rfl (lv_at hl 0 rfl) ?_
  refine lv_iload_n hx hb dL_split_3 rfl (lv_at hl 1 rfl) ?_
  refine gz_xki (w2 := lwW a cA ao cL (rv.2.2, f)) hS lw_le (vx_runV (As := [.int p1]) (rest := [.int (0 : Int32), .ref ao]) ⟨hx, hb, hml, hown, hts⟩ (mX4_split hl9 (D := D) (a := a) (cA := cA) h) (cwV 1 hts glw_38 rfl rfl rfl (by decide +kernel) ⟨Nat.le_of_ble_eq_true rfl, Nat.le_of_ble_eq_true rfl⟩) (gs_preV (q0 := 0) (ci := 4) gX_ok (C.1.sub (tys' := [(cA, .int)]) [0] rfl) (lw_nd C.2.1) C.2.2 (gs_left hP) hS lw_le [.int p1] rfl rfl) rfl rfl hl.1 rfl (lv_room (Nat.le_of_ble_eq_true rfl)) dL_split_4 (gkb _)) (fun H1 h1 hk => gs_app h1 (gs_kept (ar := [ao]) rfl (lw_ao C.2.1) (gs_right hP) hk)) (fun k0 H locs ce qe hP hS hat => ?_) (fun k0 H locs hP hS => ?_)
  · rcases hc with hc | hc | hc | hc
    · exact absurd hc k0
    · rw [hc] at hat
      refine vx_catch (E := exN 1) (name := "java/lang/IllegalArgumentException") hown [] ⟨0, 9, 12, 13⟩ [⟨0, 9, 15, 42⟩, ⟨0, 9, 18, 25⟩] (by rw [htab]; rfl) (fun z hz => nomatch hz) (by decide) (by decide) (hts _ kt_172) (gX_b C.2.2 _ (by decide +kernel)) hat.1 hat.2.1 hat.2.2 ?_
      refine lv_astore_n (lv' := [(3, .ref qe), (0, .ref (a 0)), (1, .int p1), (2, .ref ao)]) hx hb dL_split_12 rfl hl (by decide) rfl (fun ls hl => ?_)
      refine lv_iconst (v := (1 : Int32)) hx hb dL_split_13 (by decide) ?_
      exact gl_reti (wd := lwW a cA ao cL) (u := (rv.2.2, f)) hx hb hr rfl hlk hP hS (by rw [hc]; decide) (by rw [if_neg k0]) (Nat.le_of_ble_eq_true rfl) (Nat.le_of_ble_eq_true rfl) dL_split_14
    · rw [hc] at hat
      have hps : ∀ z ∈ ([⟨0, 9, 12, 13⟩] : List ExceptionTableEntry), covers z 4 = false ∨ (z.catchType ≠ 0 ∧ ∃ nm : String, (Cond.classLink RL z.catchType nm).before ([.ref (a 0), .int p1, .ref ao] : List Value).toArray s = true ∧ va_Nc (exN 3) nm s) := by
        intro z hz
        simp only [List.mem_cons, List.not_mem_nil, or_false] at hz
        rcases hz with rfl
        · exact Or.inr ⟨by decide, "java/lang/IllegalArgumentException", (hts _ kt_172), gX_c C.2.2 (by decide +kernel)⟩
      refine vx_catch (E := exN 3) (name := "java/lang/IllegalStateException") hown [⟨0, 9, 12, 13⟩] ⟨0, 9, 15, 42⟩ [⟨0, 9, 18, 25⟩] (by rw [htab]; rfl) hps (by decide) (by decide) (hts _ kt_438) (gX_b C.2.2 _ (by decide +kernel)) hat.1 hat.2.1 hat.2.2 ?_
      refine lv_astore_n (lv' := [(3, .ref qe), (0, .ref (a 0)), (1, .int p1), (2, .ref ao)]) hx hb dL_split_15 rfl hl (by decide) rfl (fun ls hl => ?_)
      refine lv_iconst (v := (2 : Int32)) hx hb dL_split_16 (by decide) ?_
      exact gl_reti (wd := lwW a cA ao cL) (u := (rv.2.2, f)) hx hb hr rfl hlk hP hS (by rw [hc]; decide) (by rw [if_neg k0]) (Nat.le_of_ble_eq_true rfl) (Nat.le_of_ble_eq_true rfl) dL_split_17
    · rw [hc] at hat
      have hps : ∀ z ∈ ([⟨0, 9, 12, 13⟩, ⟨0, 9, 15, 42⟩] : List ExceptionTableEntry), covers z 4 = false ∨ (z.catchType ≠ 0 ∧ ∃ nm : String, (Cond.classLink RL z.catchType nm).before ([.ref (a 0), .int p1, .ref ao] : List Value).toArray s = true ∧ va_Nc (exN 4) nm s) := by
        intro z hz
        simp only [List.mem_cons, List.not_mem_nil, or_false] at hz
        rcases hz with rfl | rfl
        · exact Or.inr ⟨by decide, "java/lang/IllegalArgumentException", (hts _ kt_172), gX_c C.2.2 (by decide +kernel)⟩
        · exact Or.inr ⟨by decide, "java/lang/IllegalStateException", (hts _ kt_438), gX_c C.2.2 (by decide +kernel)⟩
      refine vx_catch (E := exN 4) (name := "java/lang/UnsupportedOperationException") hown [⟨0, 9, 12, 13⟩, ⟨0, 9, 15, 42⟩] ⟨0, 9, 18, 25⟩ [] (by rw [htab]; rfl) hps (by decide) (by decide) (hts _ kt_284) (gX_b C.2.2 _ (by decide +kernel)) hat.1 hat.2.1 hat.2.2 ?_
      refine lv_astore_n (lv' := [(3, .ref qe), (0, .ref (a 0)), (1, .int p1), (2, .ref ao)]) hx hb dL_split_18 rfl hl (by decide) rfl (fun ls hl => ?_)
      refine lv_iconst (v := (3 : Int32)) hx hb dL_split_19 (by decide) ?_
      exact gl_reti (wd := lwW a cA ao cL) (u := (rv.2.2, f)) hx hb hr rfl hlk hP hS (by rw [hc]; decide) (by rw [if_neg k0]) (Nat.le_of_ble_eq_true rfl) (Nat.le_of_ble_eq_true rfl) dL_split_20
  refine lv_i2l (v := Int32.toInt64 rv.2.1) hx hb dL_split_7 rfl ?_
  refine gl_last (wd := lwW a cA ao cL) (u := (rv.2.2, f)) (u' := (rv.2.2, (if rv.1 = 0 then vp_updL f 0 (Int32.toInt64 rv.2.1) else f))) hx hb (lwW_as a cA ao cL) C hP hS 28 1 rfl rfl (by unfold vp_in; decide) (by rw [if_pos k0]; rfl) dL_split_8 (fun H locs hP hS => ?_)
  refine lv_goto (tgt := 21) hx hb dL_split_9 (by decide) ?_
  refine lv_iconst (v := (0 : Int32)) hx hb dL_split_21 (by decide) ?_
  exact gl_reti (wd := lwW a cA ao cL) (u := (rv.2.2, (if rv.1 = 0 then vp_updL f 0 (Int32.toInt64 rv.2.1) else f))) hx hb hr rfl hlk hP hS (by rw [k0]; decide) rfl (Nat.le_of_ble_eq_true rfl) (Nat.le_of_ble_eq_true rfl) dL_split_22
set_option maxHeartbeats 4000000 in
theorem mL_merge {l : Launch} (hl9 : l.stackTraces = false) {D : va_G} {a : Nat → Nat} {ao : Nat} {cA cL : ClassId} {sz : Nat} {u : g_S} {f : Nat → Int64} {p1 : Int32} {p2 : Int32} {rv : Nat × Int32 × g_S} (h : fcJ_merge u p1 p2 = some rv) (hc : rv.1 = 0 ∨ rv.1 = 1 ∨ rv.1 = 3) : gl_M D vwCl [(cA, .int), (cL, .long)] (lwA a ao) gX (lwW a cA ao cL) l yL_merge wxL_merge rmL_merge 1 6 sz (u, f) [.ref (a 0), .int p1, .int p2, .ref ao] (lwc [1, 3] rv.1) (rv.2.2, (if rv.1 = 0 then vp_updL f 0 (Int32.toInt64 rv.2.1) else f)) := by
  refine gl_Mof (cc := cL_merge) (maxL := 5) (ret := some .int) (hh := [(0, 10, 13, 13), (0, 10, 17, 42)]) (by decide) rfl ?_
  intro p e s m below meth c B htab C hP
  have hS : va_S (rg (lwA a ao) s.heap.size) s.heap s.heap [] := va_S.rf
  obtain ⟨hx, hb, hml, hown, hts, hr, hlk⟩ := id B
  have hl := lv_entry ([.ref (a 0), .int p1, .int p2, .ref ao]) (n := 5) (Nat.le_of_ble_eq_true rfl)
  rw [lg_entry_eq]
  generalize (lg_sl ([.ref (a 0), .int p1, .int p2, .ref ao]) ++ List.replicate (5 - (lg_sl ([.ref (a 0), .int p1, .int p2, .ref ao])).length) Slot.unset).toArray = ls at hl ⊢
  have hl : lv_has ls 5 [(0, .ref (a 0)), (1, .int p1), (2, .int p2), (3, .ref ao)] := hl
  refine lv_aload_n hx hb dL_merge_0 rfl (lv_at hl 3 rfl) ?_
  refine lv_iconst (v := (0 : Int32)) hx hb dL_merge_1 (by decide) ?_
  refine lv_aload_n hx hb dL_merge_2 rfl (lv_at hl 0 rfl) ?_
  refine lv_iload_n hx hb dL_merge_3 rfl (lv_at hl 1 rfl) ?_
  refine lv_iload_n hx hb dL_merge_4 rfl (lv_at hl 2 rfl) ?_
  refine gz_xki (w2 := lwW a cA ao cL (rv.2.2, f)) hS lw_le (vx_runV (As := [.int p1, .int p2]) (rest := [.int (0 : Int32), .ref ao]) ⟨hx, hb, hml, hown, hts⟩ (mX4_merge hl9 (D := D) (a := a) (cA := cA) h) (cwV 2 hts glw_44 rfl rfl rfl (by decide +kernel) ⟨Nat.le_of_ble_eq_true rfl, Nat.le_of_ble_eq_true rfl⟩) (gs_preV (q0 := 0) (ci := 4) gX_ok (C.1.sub (tys' := [(cA, .int)]) [0] rfl) (lw_nd C.2.1) C.2.2 (gs_left hP) hS lw_le [.int p1, .int p2] rfl rfl) rfl rfl hl.1 rfl (lv_room (Nat.le_of_ble_eq_true rfl)) dL_merge_5 (gkb _)) (fun H1 h1 hk => gs_app h1 (gs_kept (ar := [ao]) rfl (lw_ao C.2.1) (gs_right hP) hk)) (fun k0 H locs ce qe hP hS hat => ?_) (fun k0 H locs hP hS => ?_)
  · rcases hc with hc | hc | hc
    · exact absurd hc k0
    · rw [hc] at hat
      refine vx_catch (E := exN 1) (name := "java/lang/IllegalArgumentException") hown [] ⟨0, 10, 13, 13⟩ [⟨0, 10, 17, 42⟩] (by rw [htab]; rfl) (fun z hz => nomatch hz) (by decide) (by decide) (hts _ kt_172) (gX_b C.2.2 _ (by decide +kernel)) hat.1 hat.2.1 hat.2.2 ?_
      refine lv_astore (lv' := [(4, .ref qe), (0, .ref (a 0)), (1, .int p1), (2, .int p2), (3, .ref ao)]) hx hb dL_merge_13 hl (by decide) rfl (fun ls hl => ?_)
      refine lv_iconst (v := (1 : Int32)) hx hb dL_merge_15 (by decide) ?_
      exact gl_reti (wd := lwW a cA ao cL) (u := (rv.2.2, f)) hx hb hr rfl hlk hP hS (by rw [hc]; decide) (by rw [if_neg k0]) (Nat.le_of_ble_eq_true rfl) (Nat.le_of_ble_eq_true rfl) dL_merge_16
    · rw [hc] at hat
      have hps : ∀ z ∈ ([⟨0, 10, 13, 13⟩] : List ExceptionTableEntry), covers z 5 = false ∨ (z.catchType ≠ 0 ∧ ∃ nm : String, (Cond.classLink RL z.catchType nm).before ([.ref (a 0), .int p1, .int p2, .ref ao] : List Value).toArray s = true ∧ va_Nc (exN 3) nm s) := by
        intro z hz
        simp only [List.mem_cons, List.not_mem_nil, or_false] at hz
        rcases hz with rfl
        · exact Or.inr ⟨by decide, "java/lang/IllegalArgumentException", (hts _ kt_172), gX_c C.2.2 (by decide +kernel)⟩
      refine vx_catch (E := exN 3) (name := "java/lang/IllegalStateException") hown [⟨0, 10, 13, 13⟩] ⟨0, 10, 17, 42⟩ [] (by rw [htab]; rfl) hps (by decide) (by decide) (hts _ kt_438) (gX_b C.2.2 _ (by decide +kernel)) hat.1 hat.2.1 hat.2.2 ?_
      refine lv_astore (lv' := [(4, .ref qe), (0, .ref (a 0)), (1, .int p1), (2, .int p2), (3, .ref ao)]) hx hb dL_merge_17 hl (by decide) rfl (fun ls hl => ?_)
      refine lv_iconst (v := (2 : Int32)) hx hb dL_merge_19 (by decide) ?_
      exact gl_reti (wd := lwW a cA ao cL) (u := (rv.2.2, f)) hx hb hr rfl hlk hP hS (by rw [hc]; decide) (by rw [if_neg k0]) (Nat.le_of_ble_eq_true rfl) (Nat.le_of_ble_eq_true rfl) dL_merge_20
  refine lv_i2l (v := Int32.toInt64 rv.2.1) hx hb dL_merge_8 rfl ?_
  refine gl_last (wd := lwW a cA ao cL) (u := (rv.2.2, f)) (u' := (rv.2.2, (if rv.1 = 0 then vp_updL f 0 (Int32.toInt64 rv.2.1) else f))) hx hb (lwW_as a cA ao cL) C hP hS 28 1 rfl rfl (by unfold vp_in; decide) (by rw [if_pos k0]; rfl) dL_merge_9 (fun H locs hP hS => ?_)
  refine lv_goto (tgt := 21) hx hb dL_merge_10 (by decide) ?_
  refine lv_iconst (v := (0 : Int32)) hx hb dL_merge_21 (by decide) ?_
  exact gl_reti (wd := lwW a cA ao cL) (u := (rv.2.2, (if rv.1 = 0 then vp_updL f 0 (Int32.toInt64 rv.2.1) else f))) hx hb hr rfl hlk hP hS (by rw [k0]; decide) rfl (Nat.le_of_ble_eq_true rfl) (Nat.le_of_ble_eq_true rfl) dL_merge_22
