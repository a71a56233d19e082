set_option maxHeartbeats 4000000 in
theorem mL_watch {l : Launch} (hl9 : l.stackTraces = false) {D : va_G} {a : Nat → Nat} {ao : Nat} {cA cL : ClassId} {sz : Nat} {u : g_S} {f : Nat → Int64} {p1 : Int32} {p2 : Int32} {p3 : Int32} {p4 : Int32} {rv : Nat × g_S} (h : fcJ_watch u p1 p2 p3 p4 = some rv) (hc : rv.1 = 0 ∨ rv.1 = 1 ∨ rv.1 = 2 ∨ rv.1 = 3) : gl_M D vwCl [(cA, .int), (cL, .long)] (lwA a ao) gX (lwW a cA ao cL) l yL_watch wxL_watch rmL_watch 1 6 sz (u, f) [.ref (a 0), .int p1, .int p2, .int p3, .int p4] (lwc [1, 2, 3] rv.1) (rv.2, f) := by
  refine gl_Mof (cc := cL_watch) (maxL := 6) (ret := some .int) (hh := [(0, 9, 12, 13), (0, 9, 16, 15), (0, 9, 20, 42)]) (by decide) rfl ?_
  intro p e s m below meth c B htab C hP
  have hS : va_S (rg (lwA a ao) s.heap.size) s.heap s.heap [] := va_S.rf
  obtain ⟨hx, hb, hml, hown, hts, hr, hlk⟩ := id B
  have hl := lv_entry ([.ref (a 0), .int p1, .int p2, .int p3, .int p4]) (n := 6) (Nat.le_of_ble_eq_true rfl)
  rw [lg_entry_eq]
  generalize (lg_sl ([.ref (a 0), .int p1, .int p2, .int p3, .int p4]) ++ List.replicate (6 - (lg_sl ([.ref (a 0), .int p1, .int p2, .int p3, .int p4])).length) Slot.unset).toArray = ls at hl ⊢
  have hl : lv_has ls 6 [(0, .ref (a 0)), (1, .int p1), (2, .int p2), (3, .int p3), (4, .int p4)] := hl
  refine lv_aload_n hx hb dL_watch_0 rfl (lv_at hl 0 rfl) ?_
  refine lv_iload_n hx hb dL_watch_1 rfl (lv_at hl 1 rfl) ?_
  refine lv_iload_n hx hb dL_watch_2 rfl (lv_at hl 2 rfl) ?_
  refine lv_iload_n hx hb dL_watch_3 rfl (lv_at hl 3 rfl) ?_
  refine lv_iload hx hb dL_watch_4 (lv_at hl 4 rfl) ?_
  refine gz_xkv (w2 := lwW a cA ao cL (rv.2, f)) hS lw_le (vx_runV (As := [.int p1, .int p2, .int p3, .int p4]) (rest := []) ⟨hx, hb, hml, hown, hts⟩ (mX4_watch hl9 (D := D) (a := a) (cA := cA) h) (cwV 4 hts glw_47 rfl rfl rfl (by decide +kernel) ⟨Nat.le_of_ble_eq_true rfl, Nat.le_of_ble_eq_true rfl⟩) (gs_preV (q0 := 0) (ci := 4) gX_ok (C.1.sub (tys' := [(cA, .int)]) [0] rfl) (lw_nd C.2.1) C.2.2 (gs_left hP) hS lw_le [.int p1, .int p2, .int p3, .int p4] rfl rfl) rfl rfl hl.1 rfl (lv_room (Nat.le_of_ble_eq_true rfl)) dL_watch_6 (gkb _)) (fun H1 h1 hk => gs_app h1 (gs_kept (ar := [ao]) rfl (lw_ao C.2.1) (gs_right hP) hk)) (fun k0 H locs ce qe hP hS hat => ?_) (fun k0 H locs hP hS => ?_)
  · rcases hc with hc | hc | hc | hc
    · exact absurd hc k0
    · rw [hc] at hat
      refine vx_catch (E := exN 1) (name := "java/lang/IllegalArgumentException") hown [] ⟨0, 9, 12, 13⟩ [⟨0, 9, 16, 15⟩, ⟨0, 9, 20, 42⟩] (by rw [htab]; rfl) (fun z hz => nomatch hz) (by decide) (by decide) (hts _ kt_172) (gX_b C.2.2 _ (by decide +kernel)) hat.1 hat.2.1 hat.2.2 ?_
      refine lv_astore (lv' := [(5, .ref qe), (0, .ref (a 0)), (1, .int p1), (2, .int p2), (3, .int p3), (4, .int p4)]) hx hb dL_watch_12 hl (by decide) rfl (fun ls hl => ?_)
      refine lv_iconst (v := (1 : Int32)) hx hb dL_watch_14 (by decide) ?_
      exact gl_reti (wd := lwW a cA ao cL) (u := (rv.2, f)) hx hb hr rfl hlk hP hS (by rw [hc]; decide) rfl (Nat.le_of_ble_eq_true rfl) (Nat.le_of_ble_eq_true rfl) dL_watch_15
    · rw [hc] at hat
      have hps : ∀ z ∈ ([⟨0, 9, 12, 13⟩] : List ExceptionTableEntry), covers z 6 = false ∨ (z.catchType ≠ 0 ∧ ∃ nm : String, (Cond.classLink RL z.catchType nm).before ([.ref (a 0), .int p1, .int p2, .int p3, .int p4] : List Value).toArray s = true ∧ va_Nc (exN 2) nm s) := by
        intro z hz
        simp only [List.mem_cons, List.not_mem_nil, or_false] at hz
        rcases hz with rfl
        · exact Or.inr ⟨by decide, "java/lang/IllegalArgumentException", (hts _ kt_172), gX_c C.2.2 (by decide +kernel)⟩
      refine vx_catch (E := exN 2) (name := "java/lang/IndexOutOfBoundsException") hown [⟨0, 9, 12, 13⟩] ⟨0, 9, 16, 15⟩ [⟨0, 9, 20, 42⟩] (by rw [htab]; rfl) hps (by decide) (by decide) (hts _ kt_173) (gX_b C.2.2 _ (by decide +kernel)) hat.1 hat.2.1 hat.2.2 ?_
      refine lv_astore (lv' := [(5, .ref qe), (0, .ref (a 0)), (1, .int p1), (2, .int p2), (3, .int p3), (4, .int p4)]) hx hb dL_watch_16 hl (by decide) rfl (fun ls hl => ?_)
      refine lv_iconst (v := (2 : Int32)) hx hb dL_watch_18 (by decide) ?_
      exact gl_reti (wd := lwW a cA ao cL) (u := (rv.2, f)) hx hb hr rfl hlk hP hS (by rw [hc]; decide) rfl (Nat.le_of_ble_eq_true rfl) (Nat.le_of_ble_eq_true rfl) dL_watch_19
    · rw [hc] at hat
      have hps : ∀ z ∈ ([⟨0, 9, 12, 13⟩, ⟨0, 9, 16, 15⟩] : List ExceptionTableEntry), covers z 6 = false ∨ (z.catchType ≠ 0 ∧ ∃ nm : String, (Cond.classLink RL z.catchType nm).before ([.ref (a 0), .int p1, .int p2, .int p3, .int p4] : List Value).toArray s = true ∧ va_Nc (exN 3) nm s) := by
        intro z hz
        simp only [List.mem_cons, List.not_mem_nil, or_false] at hz
        rcases hz with rfl | rfl
        · exact Or.inr ⟨by decide, "java/lang/IllegalArgumentException", (hts _ kt_172), gX_c C.2.2 (by decide +kernel)⟩
        · exact Or.inr ⟨by decide, "java/lang/IndexOutOfBoundsException", (hts _ kt_173), gX_c C.2.2 (by decide +kernel)⟩
      refine vx_catch (E := exN 3) (name := "java/lang/IllegalStateException") hown [⟨0, 9, 12, 13⟩, ⟨0, 9, 16, 15⟩] ⟨0, 9, 20, 42⟩ [] (by rw [htab]; rfl) hps (by decide) (by decide) (hts _ kt_438) (gX_b C.2.2 _ (by decide +kernel)) hat.1 hat.2.1 hat.2.2 ?_
      refine lv_astore (lv' := [(5, .ref qe), (0, .ref (a 0)), (1, .int p1), (2, .int p2), (3, .int p3), (4, .int p4)]) hx hb dL_watch_20 hl (by decide) rfl (fun ls hl => ?_)
      refine lv_iconst (v := (3 : Int32)) hx hb dL_watch_22 (by decide) ?_
      exact gl_reti (wd := lwW a cA ao cL) (u := (rv.2, f)) hx hb hr rfl hlk hP hS (by rw [hc]; decide) rfl (Nat.le_of_ble_eq_true rfl) (Nat.le_of_ble_eq_true rfl) dL_watch_23
  refine lv_goto (tgt := 24) hx hb dL_watch_9 (by decide) ?_
  refine lv_iconst (v := (0 : Int32)) hx hb dL_watch_24 (by decide) ?_
  exact gl_reti (wd := lwW a cA ao cL) (u := (rv.2, f)) hx hb hr rfl hlk hP hS (by rw [k0]; decide) rfl (Nat.le_of_ble_eq_true rfl) (Nat.le_of_ble_eq_true rfl) dL_watch_25
set_option maxHeartbeats 4000000 in
theorem mL_state {l : Launch} (hl9 : l.stackTraces = false) {D : va_G} {a : Nat → Nat} {ao : Nat} {cA cL : ClassId} {sz : Nat} {u : g_S} {f : Nat → Int64} {p1 : Int32} {p2 : Int32} {rv : Nat × g_S} (h : fcJ_state u p1 p2 = some rv) (hc : rv.1 = 0 ∨ rv.1 = 1 ∨ rv.1 = 2 ∨ rv.1 = 3) : gl_M D vwCl [(cA, .int), (cL, .long)] (lwA a ao) gX (lwW a cA ao cL) l yL_state wxL_state rmL_state 1 6 sz (u, f) [.ref (a 0), .int p1, .int p2] (lwc [1, 2, 3] rv.1) (rv.2, f) := by
  refine gl_Mof (cc := cL_state) (maxL := 4) (ret := some .int) (hh := [(0, 6, 9, 13), (0, 6, 12, 15), (0, 6, 15, 42)]) (by decide) rfl ?_
  intro p e s m below meth c B htab C hP
  have hS : va_S (rg (lwA a ao) s.heap.size) s.heap s.heap [] := va_S.rf
  obtain ⟨hx, hb, hml, hown, hts, hr, hlk⟩ := id B
  have hl := lv_entry ([.ref (a 0), .int p1, .int p2]) (n := 4) (Nat.le_of_ble_eq_true rfl)
  rw [lg_entry_eq]
  generalize (lg_sl ([.ref (a 0), .int p1, .int p2]) ++ List.replicate (4 - (lg_sl ([.ref (a 0), .int p1, .int p2])).length) Slot.unset).toArray = ls at hl ⊢
  have hl : lv_has ls 4 [(0, .ref (a 0)), (1, .int p1), (2, .int p2)] := hl
  refine lv_aload_n hx hb dL_state_0 rfl (lv_at hl 0 rfl) ?_
  refine lv_iload_n hx hb dL_state_1 rfl (lv_at hl 1 rfl) ?_
  refine lv_iload_n hx hb dL_state_2 rfl (lv_at hl 2 rfl) ?_
  refine gz_xkv (w2 := lwW a cA ao cL (rv.2, f)) hS lw_le (vx_runV (As := [.int p1, .int p2]) (rest := []) ⟨hx, hb, hml, hown, hts⟩ (mX4_state hl9 (D := D) (a := a) (cA := cA) h) (cwV 2 hts glw_51 rfl rfl rfl (by decide +kernel) ⟨Nat.le_of_ble_eq_true rfl, Nat.le_of_ble_eq_true rfl⟩) (gs_preV (q0 := 0) (ci := 4) gX_ok (C.1.sub (tys' := [(cA, .int)]) [0] rfl) (lw_nd C.2.1) C.2.2 (gs_left hP) hS lw_le [.int p1, .int p2] rfl rfl) rfl rfl hl.1 rfl (lv_room (Nat.le_of_ble_eq_true rfl)) dL_state_3 (gkb _)) (fun H1 h1 hk => gs_app h1 (gs_kept (ar := [ao]) rfl (lw_ao C.2.1) (gs_right hP) hk)) (fun k0 H locs ce qe hP hS hat => ?_) (fun k0 H locs hP hS => ?_)
  · rcases hc with hc | hc | hc | hc
    · exact absurd hc k0
    · rw [hc] at hat
      refine vx_catch (E := exN 1) (name := "java/lang/IllegalArgumentException") hown [] ⟨0, 6, 9, 13⟩ [⟨0, 6, 12, 15⟩, ⟨0, 6, 15, 42⟩] (by rw [htab]; rfl) (fun z hz => nomatch hz) (by decide) (by decide) (hts _ kt_172) (gX_b C.2.2 _ (by decide +kernel)) hat.1 hat.2.1 hat.2.2 ?_
      refine lv_astore_n (lv' := [(3, .ref qe), (0, .ref (a 0)), (1, .int p1), (2, .int p2)]) hx hb dL_state_9 rfl hl (by decide) rfl (fun ls hl => ?_)
      refine lv_iconst (v := (1 : Int32)) hx hb dL_state_10 (by decide) ?_
      exact gl_reti (wd := lwW a cA ao cL) (u := (rv.2, f)) hx hb hr rfl hlk hP hS (by rw [hc]; decide) rfl (Nat.le_of_ble_eq_true rfl) (Nat.le_of_ble_eq_true rfl) dL_state_11
    · rw [hc] at hat
      have hps : ∀ z ∈ ([⟨0, 6, 9, 13⟩] : List ExceptionTableEntry), covers z 3 = false ∨ (z.catchType ≠ 0 ∧ ∃ nm : String, (Cond.classLink RL z.catchType nm).before ([.ref (a 0), .int p1, .int p2] : List Value).toArray s = true ∧ va_Nc (exN 2) nm s) := by
        intro z hz
        simp only [List.mem_cons, List.not_mem_nil, or_false] at hz
        rcases hz with rfl
        · exact Or.inr ⟨by decide, "java/lang/IllegalArgumentException", (hts _ kt_172), gX_c C.2.2 (by decide +kernel)⟩
      refine vx_catch (E := exN 2) (name := "java/lang/IndexOutOfBoundsException") hown [⟨0, 6, 9, 13⟩] ⟨0, 6, 12, 15⟩ [⟨0, 6, 15, 42⟩] (by rw [htab]; rfl) hps (by decide) (by decide) (hts _ kt_173) (gX_b C.2.2 _ (by decide +kernel)) hat.1 hat.2.1 hat.2.2 ?_
      refine lv_astore_n (lv' := [(3, .ref qe), (0, .ref (a 0)), (1, .int p1), (2, .int p2)]) hx hb dL_state_12 rfl hl (by decide) rfl (fun ls hl => ?_)
      refine lv_iconst (v := (2 : Int32)) hx hb dL_state_13 (by decide) ?_
      exact gl_reti (wd := lwW a cA ao cL) (u := (rv.2, f)) hx hb hr rfl hlk hP hS (by rw [hc]; decide) rfl (Nat.le_of_ble_eq_true rfl) (Nat.le_of_ble_eq_true rfl) dL_state_14
    · rw [hc] at hat
      have hps : ∀ z ∈ ([⟨0, 6, 9, 13⟩, ⟨0, 6, 12, 15⟩] : List ExceptionTableEntry), covers z 3 = false ∨ (z.catchType ≠ 0 ∧ ∃ nm : String, (Cond.classLink RL z.catchType nm).before ([.ref (a 0), .int p1, .int p2] : List Value).toArray s = true ∧ va_Nc (exN 3) nm s) := by
        intro z hz
        simp only [List.mem_cons, List.not_mem_nil, or_false] at hz
        rcases hz with rfl | rfl
        · exact Or.inr ⟨by decide, "java/lang/IllegalArgumentException", (hts _ kt_172), gX_c C.2.2 (by decide +kernel)⟩
        · exact Or.inr ⟨by decide, "java/lang/IndexOutOfBoundsException", (hts _ kt_173), gX_c C.2.2 (by decide +kernel)⟩
      refine vx_catch (E := exN 3) (name := "java/lang/IllegalStateException") hown [⟨0, 6, 9, 13⟩, ⟨0, 6, 12, 15⟩] ⟨0, 6, 15, 42⟩ [] (by rw [htab]; rfl) hps (by decide) (by decide) (hts _ kt_438) (gX_b C.2.2 _ (by decide +kernel)) hat.1 hat.2.1 hat.2.2 ?_
      refine lv_astore_n (lv' := [(3, .ref qe), (0, .ref (a 0)), (1, .int p1), (2, .int p2)]) hx hb dL_state_15 rfl hl (by decide) rfl (fun ls hl => ?_)
      refine lv_iconst (v := (3 : Int32)) hx hb dL_state_16 (by decide) ?_
      exact gl_reti (wd := lwW a cA ao cL) (u := (rv.2, f)) hx hb hr rfl hlk hP hS (by rw [hc]; decide) rfl (Nat.le_of_ble_eq_true rfl) (Nat.le_of_ble_eq_true rfl) dL_state_17
  refine lv_goto (tgt := 18) hx hb dL_state_6 (by decide) ?_
  refine lv_iconst (v := (0 : Int32)) hx hb dL_state_18 (by decide) ?_
  exact gl_reti (wd := lwW a cA ao cL) (u := (rv.2, f)) hx hb hr rfl hlk hP hS (by rw [k0]; decide) rfl (Nat.le_of_ble_eq_true rfl) (Nat.le_of_ble_eq_true rfl) dL_state_19
set_option maxHeartbeats 4000000 in
theorem mL_share {l : Launch} (hl9 : l.stackTraces = false) {D : va_G} {a : Nat → Nat} {ao : Nat} {cA cL : ClassId} {sz : Nat} {u : g_S} {f : Nat → Int64} {p1 : Int32} {p2 : Int32} {rv : Nat × Int32} (h : fcJ_share u p1 p2 = some rv) (hc : rv.1 = 0 ∨ rv.1 = 1 ∨ rv.1 = 5) : gl_M D vwCl [(cA, .int), (cL, .long)] (lwA a ao) gX (lwW a cA ao cL) l yL_share wxL_share rmL_share 1 6 sz (u, f) [.ref (a 0), .int p1, .int p2, .ref ao] (lwc [1, 5] rv.1) (u, (if rv.1 = 0 then vp_updL f 0 (Int32.toInt64 rv.2) else f)) := by
  refine gl_Mof (cc := cL_share) (maxL := 5) (ret := some .int) (hh := [(0, 10, 13, 13), (0, 10, 17, 57)]) (by decide) rfl ?_
  intro p e s m below meth c B htab C hP
  have hS : va_S (rg (lwA a ao) s.heap.size) s.heap s.heap [] := va_S.rf
  obtain ⟨hx, hb, hml, hown, hts, hr, hlk⟩ := id B
  have hl := lv_entry ([.ref (a 0), .int p1, .int p2, .ref ao]) (n := 5) (Nat.le_of_ble_eq_true rfl)
  rw [lg_entry_eq]
  generalize (lg_sl ([.ref (a 0), .int p1, .int p2, .ref ao]) ++ List.replicate (5 - (lg_sl ([.ref (a 0), .int p1, .int p2, .ref ao])).length) Slot.unset).toArray = ls at hl ⊢
  have hl : lv_has ls 5 [(0, .ref (a 0)), (1, .int p1), (2, .int p2), (3, .ref ao)] := hl
  refine lv_aload_n hx hb dL_share_0 rfl (lv_at hl 3 rfl) ?_
  refine lv_iconst (v := (0 : Int32)) hx hb dL_share_1 (by decide) ?_
  refine lv_aload_n hx hb dL_share_2 rfl (lv_at hl 0 rfl) ?_
  refine lv_iload_n hx hb dL_share_3 rfl (lv_at hl 1 rfl) ?_
  refine lv_iload_n hx hb dL_share_4 rfl (lv_at hl 2 rfl) ?_
  refine gz_xki (w2 := lwW a cA ao cL (u, f)) hS lw_le (vx_runV (As := [.int p1, .int p2]) (rest := [.int (0 : Int32), .ref ao]) ⟨hx, hb, hml, hown, hts⟩ (mX4_share hl9 (D := D) (a := a) (cA := cA) h) (cwV 2 hts glw_54 rfl rfl rfl (by decide +kernel) ⟨Nat.le_of_ble_eq_true rfl, Nat.le_of_ble_eq_true rfl⟩) (gs_preV (q0 := 0) (ci := 4) gX_ok (C.1.sub (tys' := [(cA, .int)]) [0] rfl) (lw_nd C.2.1) C.2.2 (gs_left hP) hS lw_le [.int p1, .int p2] rfl rfl) rfl rfl hl.1 rfl (lv_room (Nat.le_of_ble_eq_true rfl)) dL_share_5 (gkb _)) (fun H1 h1 hk => gs_app h1 (gs_kept (ar := [ao]) rfl (lw_ao C.2.1) (gs_right hP) hk)) (fun k0 H locs ce qe hP hS hat => ?_) (fun k0 H locs hP hS => ?_)
  · rcases hc with hc | hc | hc
    · exact absurd hc k0
    · rw [hc] at hat
      refine vx_catch (E := exN 1) (name := "java/lang/IllegalArgumentException") hown [] ⟨0, 10, 13, 13⟩ [⟨0, 10, 17, 57⟩] (by rw [htab]; rfl) (fun z hz => nomatch hz) (by decide) (by decide) (hts _ kt_172) (gX_b C.2.2 _ (by decide +kernel)) hat.1 hat.2.1 hat.2.2 ?_
      refine lv_astore (lv' := [(4, .ref qe), (0, .ref (a 0)), (1, .int p1), (2, .int p2), (3, .ref ao)]) hx hb dL_share_13 hl (by decide) rfl (fun ls hl => ?_)
      refine lv_iconst (v := (1 : Int32)) hx hb dL_share_15 (by decide) ?_
      exact gl_reti (wd := lwW a cA ao cL) (u := (u, f)) hx hb hr rfl hlk hP hS (by rw [hc]; decide) (by rw [if_neg k0]) (Nat.le_of_ble_eq_true rfl) (Nat.le_of_ble_eq_true rfl) dL_share_16
    · rw [hc] at hat
      have hps : ∀ z ∈ ([⟨0, 10, 13, 13⟩] : List ExceptionTableEntry), covers z 5 = false ∨ (z.catchType ≠ 0 ∧ ∃ nm : String, (Cond.classLink RL z.catchType nm).before ([.ref (a 0), .int p1, .int p2, .ref ao] : List Value).toArray s = true ∧ va_Nc (exN 5) nm s) := by
        intro z hz
        simp only [List.mem_cons, List.not_mem_nil, or_false] at hz
        rcases hz with rfl
        · exact Or.inr ⟨by decide, "java/lang/IllegalArgumentException", (hts _ kt_172), gX_c C.2.2 (by decide +kernel)⟩
      refine vx_catch (E := exN 5) (name := "java/lang/ArithmeticException") hown [⟨0, 10, 13, 13⟩] ⟨0, 10, 17, 57⟩ [] (by rw [htab]; rfl) hps (by decide) (by decide) (hts _ kt_508) (gX_b C.2.2 _ (by decide +kernel)) hat.1 hat.2.1 hat.2.2 ?_
      refine lv_astore (lv' := [(4, .ref qe), (0, .ref (a 0)), (1, .int p1), (2, .int p2), (3, .ref ao)]) hx hb dL_share_17 hl (by decide) rfl (fun ls hl => ?_)
      refine lv_iconst (v := (2 : Int32)) hx hb dL_share_19 (by decide) ?_
      exact gl_reti (wd := lwW a cA ao cL) (u := (u, f)) hx hb hr rfl hlk hP hS (by rw [hc]; decide) (by rw [if_neg k0]) (Nat.le_of_ble_eq_true rfl) (Nat.le_of_ble_eq_true rfl) dL_share_20
  refine lv_i2l (v := Int32.toInt64 rv.2) hx hb dL_share_8 rfl ?_
  refine gl_last (wd := lwW a cA ao cL) (u := (u, f)) (u' := (u, (if rv.1 = 0 then vp_updL f 0 (Int32.toInt64 rv.2) else f))) hx hb (lwW_as a cA ao cL) C hP hS 28 1 rfl rfl (by unfold vp_in; decide) (by rw [if_pos k0]; rfl) dL_share_9 (fun H locs hP hS => ?_)
  refine lv_goto (tgt := 21) hx hb dL_share_10 (by decide) ?_
  refine lv_iconst (v := (0 : Int32)) hx hb dL_share_21 (by decide) ?_
  exact gl_reti (wd := lwW a cA ao cL) (u := (u, (if rv.1 = 0 then vp_updL f 0 (Int32.toInt64 rv.2) else f))) hx hb hr rfl hlk hP hS (by rw [k0]; decide) rfl (Nat.le_of_ble_eq_true rfl) (Nat.le_of_ble_eq_true rfl) dL_share_22
set_option maxHeartbeats 4000000 in
theorem mL_agree {l : Launch} (hl9 : l.stackTraces = false) {D : va_G} {a : Nat → Nat} {ao : Nat} {cA cL : ClassId} {sz : Nat} {u : g_S} {f : Nat → Int64} {p1 : Int32} {p2 : Int32} {rv : Nat × Int32} (h : fcJ_agree u p1 p2 = some rv) (hc : rv.1 = 0 ∨ rv.1 = 1) : gl_M D vwCl [(cA, .int), (cL, .long)] (lwA a ao) gX (lwW a cA ao cL) l yL_agree wxL_agree rmL_agree 1 6 sz (u, f) [.ref (a 0), .int p1, .int p2, .ref ao] (lwc [1] rv.1) (u, (if rv.1 = 0 then vp_updL f 0 (Int32.toInt64 rv.2) else f)) := by
  refine gl_Mof (cc := cL_agree) (maxL := 5) (ret := some .int) (hh := [(0, 10, 13, 13)]) (by decide) rfl ?_
  intro p e s m below meth c B htab C hP
  have hS : va_S (rg (lwA a ao) s.heap.size) s.heap s.heap [] := va_S.rf
  obtain ⟨hx, hb, hml, hown, hts, hr, hlk⟩ := id B
  have hl := lv_entry ([.ref (a 0), .int p1, .int p2, .ref ao]) (n := 5) (Nat.le_of_ble_eq_true rfl)
  rw [lg_entry_eq]
  generalize (lg_sl ([.ref (a 0), .int p1, .int p2, .ref ao]) ++ List.replicate (5 - (lg_sl ([.ref (a 0), .int p1, .int p2, .ref ao])).length) Slot.unset).toArray = ls at hl ⊢
  have hl : lv_has ls 5 [(0, .ref (a 0)), (1, .int p1), (2, .int p2), (3, .ref ao)] := hl
  refine lv_aload_n hx hb dL_agree_0 rfl (lv_at hl 3 rfl) ?_
  refine lv_iconst (v := (0 : Int32)) hx hb dL_agree_1 (by decide) ?_
  refine lv_aload_n hx hb dL_agree_2 rfl (lv_at hl 0 rfl) ?_
  refine lv_iload_n hx hb dL_agree_3 rfl (lv_at hl 1 rfl) ?_
  refine lv_iload_n hx hb dL_agree_4 rfl (lv_at hl 2 rfl) ?_
  refine gz_xki (w2 := lwW a cA ao cL (u, f)) hS lw_le (vx_runV (As := [.int p1, .int p2]) (rest := [.int (0 : Int32), .ref ao]) ⟨hx, hb, hml, hown, hts⟩ (mX4_agree hl9 (D := D) (a := a) (cA := cA) h) (cwV 2 hts glw_59 rfl rfl rfl (by decide +kernel) ⟨Nat.le_of_ble_eq_true rfl, Nat.le_of_ble_eq_true rfl⟩) (gs_preV (q0 := 0) (ci := 4) gX_ok (C.1.sub (tys' := [(cA, .int)]) [0] rfl) (lw_nd C.2.1) C.2.2 (gs_left hP) hS lw_le [.int p1, .int p2] rfl rfl) rfl rfl hl.1 rfl (lv_room (Nat.le_of_ble_eq_true rfl)) dL_agree_5 (gkb _)) (fun H1 h1 hk => gs_app h1 (gs_kept (ar := [ao]) rfl (lw_ao C.2.1) (gs_right hP) hk)) (fun k0 H locs ce qe hP hS hat => ?_) (fun k0 H locs hP hS => ?_)
  · rcases hc with hc | hc
    · exact absurd hc k0
    · rw [hc] at hat
      refine vx_catch (E := exN 1) (name := "java/lang/IllegalArgumentException") hown [] ⟨0, 10, 13, 13⟩ [] (by rw [htab]; rfl) (fun z hz => nomatch hz) (by decide) (by decide) (hts _ kt_172) (gX_b C.2.2 _ (by decide +kernel)) hat.1 hat.2.1 hat.2.2 ?_
      refine lv_astore (lv' := [(4, .ref qe), (0, .ref (a 0)), (1, .int p1), (2, .int p2), (3, .ref ao)]) hx hb dL_agree_13 hl (by decide) rfl (fun ls hl => ?_)
      refine lv_iconst (v := (1 : Int32)) hx hb dL_agree_15 (by decide) ?_
      exact gl_reti (wd := lwW a cA ao cL) (u := (u, f)) hx hb hr rfl hlk hP hS (by rw [hc]; decide) (by rw [if_neg k0]) (Nat.le_of_ble_eq_true rfl) (Nat.le_of_ble_eq_true rfl) dL_agree_16
  refine lv_i2l (v := Int32.toInt64 rv.2) hx hb dL_agree_8 rfl ?_
  refine gl_last (wd := lwW a cA ao cL) (u := (u, f)) (u' := (u, (if rv.1 = 0 then vp_updL f 0 (Int32.toInt64 rv.2) else f))) hx hb (lwW_as a cA ao cL) C hP hS 28 1 rfl rfl (by unfold vp_in; decide) (by rw [if_pos k0]; rfl) dL_agree_9 (fun H locs hP hS => ?_)
  refine lv_goto (tgt := 17) hx hb dL_agree_10 (by decide) ?_
  refine lv_iconst (v := (0 : Int32)) hx hb dL_agree_17 (by decide) ?_
  exact gl_reti (wd := lwW a cA ao cL) (u := (u, (if rv.1 = 0 then vp_updL f 0 (Int32.toInt64 rv.2) else f))) hx hb hr rfl hlk hP hS (by rw [k0]; decide) rfl (Nat.le_of_ble_eq_true rfl) (Nat.le_of_ble_eq_true rfl) dL_agree_18
