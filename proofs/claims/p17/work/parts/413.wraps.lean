set_option maxHeartbeats 4000000 in
theorem mL_callAt {l : Launch} (hl9 : l.stackTraces = false) {D : va_G} {a : Nat → Nat} {ao : Nat} {cA cL : ClassId} {sz : Nat} {u : g_S} {f : Nat → Int64} {p1 : Int32} {p2 : Int32} {rv : Nat × Int32} (h : fcJ_callAt u p1 p2 = some rv) (hc : rv.1 = 0 ∨ rv.1 = 1) : gl_M D vwCl [(cA, .int), (cL, .long)] (lwA a ao) gX (lwW a cA ao cL) l yL_callAt wxL_callAt rmL_callAt 1 6 sz (u, f) [.ref (a 0), .int p1, .int p2, .ref ao] (lwc [1] rv.1) (u, (if rv.1 = 0 then vp_updL f 0 (Int32.toInt64 rv.2) else f)) := by
  refine gl_Mof (cc := cL_callAt) (maxL := 5) (ret := some .int) (hh := [(0, 10, 13, 13)]) (by decide) rfl ?_
  intro p e s m below meth c B htab C hP
  have hS : va_S (rg (lwA a ao) s.heap.size) s.heap s.heap [] := va_S.rf
  obtain ⟨hx, hb, hml, hown, hts, hr, hlk⟩ := id B
  have hl := lv_entry ([.ref (a 0), .int p1, .int p2, .ref ao]) (n := 5) (Nat.le_of_ble_eq_true rfl)
  rw [lg_entry_eq]
  generalize (lg_sl ([.ref (a 0), .int p1, .int p2, .ref ao]) ++ List.replicate (5 - (lg_sl ([.ref (a 0), .int p1, .int p2, .ref ao])).length) Slot.unset).toArray = ls at hl ⊢
  have hl : lv_has ls 5 [(0, .ref (a 0)), (1, .int p1), (2, .int p2), (3, .ref ao)] := hl
  refine lv_aload_n hx hb dL_callAt_0 rfl (lv_at hl 3 rfl) ?_
  refine lv_iconst (v := (0 : Int32)) hx hb dL_callAt_1 (by decide) ?_
  refine lv_aload_n hx hb dL_callAt_2 rfl (lv_at hl 0 rfl) ?_
  refine lv_iload_n hx hb dL_callAt_3 rfl (lv_at hl 1 rfl) ?_
  refine lv_iload_n hx hb dL_callAt_4 rfl (lv_at hl 2 rfl) ?_
  refine gz_xki (w2 := lwW a cA ao cL (u, f)) hS lw_le (vx_runV (As := [.int p1, .int p2]) (rest := [.int (0 : Int32), .ref ao]) ⟨hx, hb, hml, hown, hts⟩ (mX4_callAt hl9 (D := D) (a := a) (cA := cA) h) (cwV 2 hts glw_62 rfl rfl rfl (by decide +kernel) ⟨Nat.le_of_ble_eq_true rfl, Nat.le_of_ble_eq_true rfl⟩) (gs_preV (q0 := 0) (ci := 4) gX_ok (C.1.sub (tys' := [(cA, .int)]) [0] rfl) (lw_nd C.2.1) C.2.2 (gs_left hP) hS lw_le [.int p1, .int p2] rfl rfl) rfl rfl hl.1 rfl (lv_room (Nat.le_of_ble_eq_true rfl)) dL_callAt_5 (gkb _)) (fun H1 h1 hk => gs_app h1 (gs_kept (ar := [ao]) rfl (lw_ao C.2.1) (gs_right hP) hk)) (fun k0 H locs ce qe hP hS hat => ?_) (fun k0 H locs hP hS => ?_)
  · rcases hc with hc | hc
    · exact absurd hc k0
    · rw [hc] at hat
      refine vx_catch (E := exN 1) (name := "java/lang/IllegalArgumentException") hown [] ⟨0, 10, 13, 13⟩ [] (by rw [htab]; rfl) (fun z hz => nomatch hz) (by decide) (by decide) (hts _ kt_172) (gX_b C.2.2 _ (by decide +kernel)) hat.1 hat.2.1 hat.2.2 ?_
      refine lv_astore (lv' := [(4, .ref qe), (0, .ref (a 0)), (1, .int p1), (2, .int p2), (3, .ref ao)]) hx hb dL_callAt_13 hl (by decide) rfl (fun ls hl => ?_)
      refine lv_iconst (v := (1 : Int32)) hx hb dL_callAt_15 (by decide) ?_
      exact gl_reti (wd := lwW a cA ao cL) (u := (u, f)) hx hb hr rfl hlk hP hS (by rw [hc]; decide) (by rw [if_neg k0]) (Nat.le_of_ble_eq_true rfl) (Nat.le_of_ble_eq_true rfl) dL_callAt_16
  refine lv_i2l (v := Int32.toInt64 rv.2) hx hb dL_callAt_8 rfl ?_
  refine gl_last (wd := lwW a cA ao cL) (u := (u, f)) (u' := (u, (if rv.1 = 0 then vp_updL f 0 (Int32.toInt64 rv.2) else f))) hx hb (lwW_as a cA ao cL) C hP hS 28 1 rfl rfl (by unfold vp_in; decide) (by rw [if_pos k0]; rfl) dL_callAt_9 (fun H locs hP hS => ?_)
  refine lv_goto (tgt := 17) hx hb dL_callAt_10 (by decide) ?_
  refine lv_iconst (v := (0 : Int32)) hx hb dL_callAt_17 (by decide) ?_
  exact gl_reti (wd := lwW a cA ao cL) (u := (u, (if rv.1 = 0 then vp_updL f 0 (Int32.toInt64 rv.2) else f))) hx hb hr rfl hlk hP hS (by rw [k0]; decide) rfl (Nat.le_of_ble_eq_true rfl) (Nat.le_of_ble_eq_true rfl) dL_callAt_18
set_option maxHeartbeats 4000000 in
theorem mL_eventAt {l : Launch} (hl9 : l.stackTraces = false) {D : va_G} {a : Nat → Nat} {ao : Nat} {cA cL : ClassId} {sz : Nat} {u : g_S} {f : Nat → Int64} {p1 : Int32} {p2 : Int32} {rv : Nat × Int32} (h : fcJ_eventAt u p1 p2 = some rv) (hc : rv.1 = 0 ∨ rv.1 = 1) : gl_M D vwCl [(cA, .int), (cL, .long)] (lwA a ao) gX (lwW a cA ao cL) l yL_eventAt wxL_eventAt rmL_eventAt 1 6 sz (u, f) [.ref (a 0), .int p1, .int p2, .ref ao] (lwc [1] rv.1) (u, (if rv.1 = 0 then vp_updL f 0 (Int32.toInt64 rv.2) else f)) := by
  refine gl_Mof (cc := cL_eventAt) (maxL := 5) (ret := some .int) (hh := [(0, 10, 13, 13)]) (by decide) rfl ?_
  intro p e s m below meth c B htab C hP
  have hS : va_S (rg (lwA a ao) s.heap.size) s.heap s.heap [] := va_S.rf
  obtain ⟨hx, hb, hml, hown, hts, hr, hlk⟩ := id B
  have hl := lv_entry ([.ref (a 0), .int p1, .int p2, .ref ao]) (n := 5) (Nat.le_of_ble_eq_true rfl)
  rw [lg_entry_eq]
  generalize (lg_sl ([.ref (a 0), .int p1, .int p2, .ref ao]) ++ List.replicate (5 - (lg_sl ([.ref (a 0), .int p1, .int p2, .ref ao])).length) Slot.unset).toArray = ls at hl ⊢
  have hl : lv_has ls 5 [(0, .ref (a 0)), (1, .int p1), (2, .int p2), (3, .ref ao)] := hl
  refine lv_aload_n hx hb dL_eventAt_0 rfl (lv_at hl 3 rfl) ?_
  refine lv_iconst (v := (0 : Int32)) hx hb dL_eventAt_1 (by decide) ?_
  refine lv_aload_n hx hb dL_eventAt_2 rfl (lv_at hl 0 rfl) ?_
  refine lv_iload_n hx hb dL_eventAt_3 rfl (lv_at hl 1 rfl) ?_
  refine lv_iload_n hx hb dL_eventAt_4 rfl (lv_at hl 2 rfl) ?_
  refine gz_xki (w2 := lwW a cA ao cL (u, f)) hS lw_le (vx_runV (As := [.int p1, .int p2]) (rest := [.int (0 : Int32), .ref ao]) ⟨hx, hb, hml, hown, hts⟩ (mX4_eventAt hl9 (D := D) (a := a) (cA := cA) h) (cwV 2 hts glw_65 rfl rfl rfl (by decide +kernel) ⟨Nat.le_of_ble_eq_true rfl, Nat.le_of_ble_eq_true rfl⟩) (gs_preV (q0 := 0) (ci := 4) gX_ok (C.1.sub (tys' := [(cA, .int)]) [0] rfl) (lw_nd C.2.1) C.2.2 (gs_left hP) hS lw_le [.int p1, .int p2] rfl rfl) rfl rfl hl.1 rfl (lv_room (Nat.le_of_ble_eq_true rfl)) dL_eventAt_5 (gkb _)) (fun H1 h1 hk => gs_app h1 (gs_kept (ar := [ao]) rfl (lw_ao C.2.1) (gs_right hP) hk)) (fun k0 H locs ce qe hP hS hat => ?_) (fun k0 H locs hP hS => ?_)
  · rcases hc with hc | hc
    · exact absurd hc k0
    · rw [hc] at hat
      refine vx_catch (E := exN 1) (name := "java/lang/IllegalArgumentException") hown [] ⟨0, 10, 13, 13⟩ [] (by rw [htab]; rfl) (fun z hz => nomatch hz) (by decide) (by decide) (hts _ kt_172) (gX_b C.2.2 _ (by decide +kernel)) hat.1 hat.2.1 hat.2.2 ?_
      refine lv_astore (lv' := [(4, .ref qe), (0, .ref (a 0)), (1, .int p1), (2, .int p2), (3, .ref ao)]) hx hb dL_eventAt_13 hl (by decide) rfl (fun ls hl => ?_)
      refine lv_iconst (v := (1 : Int32)) hx hb dL_eventAt_15 (by decide) ?_
      exact gl_reti (wd := lwW a cA ao cL) (u := (u, f)) hx hb hr rfl hlk hP hS (by rw [hc]; decide) (by rw [if_neg k0]) (Nat.le_of_ble_eq_true rfl) (Nat.le_of_ble_eq_true rfl) dL_eventAt_16
  refine lv_i2l (v := Int32.toInt64 rv.2) hx hb dL_eventAt_8 rfl ?_
  refine gl_last (wd := lwW a cA ao cL) (u := (u, f)) (u' := (u, (if rv.1 = 0 then vp_updL f 0 (Int32.toInt64 rv.2) else f))) hx hb (lwW_as a cA ao cL) C hP hS 28 1 rfl rfl (by unfold vp_in; decide) (by rw [if_pos k0]; rfl) dL_eventAt_9 (fun H locs hP hS => ?_)
  refine lv_goto (tgt := 17) hx hb dL_eventAt_10 (by decide) ?_
  refine lv_iconst (v := (0 : Int32)) hx hb dL_eventAt_17 (by decide) ?_
  exact gl_reti (wd := lwW a cA ao cL) (u := (u, (if rv.1 = 0 then vp_updL f 0 (Int32.toInt64 rv.2) else f))) hx hb hr rfl hlk hP hS (by rw [k0]; decide) rfl (Nat.le_of_ble_eq_true rfl) (Nat.le_of_ble_eq_true rfl) dL_eventAt_18
set_option maxHeartbeats 4000000 in
theorem mL_member {l : Launch} (hl9 : l.stackTraces = false) {D : va_G} {a : Nat → Nat} {ao : Nat} {cA cL : ClassId} {sz : Nat} {u : g_S} {f : Nat → Int64} {p1 : Int32} {p2 : Int32} {rv : Nat × Int32} (h : fcJ_member u p1 p2 = some rv) (hc : rv.1 = 0 ∨ rv.1 = 1 ∨ rv.1 = 2) : gl_M D vwCl [(cA, .int), (cL, .long)] (lwA a ao) gX (lwW a cA ao cL) l yL_member wxL_member rmL_member 1 6 sz (u, f) [.ref (a 0), .int p1, .int p2, .ref ao] (lwc [1, 2] rv.1) (u, (if rv.1 = 0 then vp_updL f 0 (Int32.toInt64 rv.2) else f)) := by
  refine gl_Mof (cc := cL_member) (maxL := 5) (ret := some .int) (hh := [(0, 10, 13, 13), (0, 10, 17, 15)]) (by decide) rfl ?_
  intro p e s m below meth c B htab C hP
  have hS : va_S (rg (lwA a ao) s.heap.size) s.heap s.heap [] := va_S.rf
  obtain ⟨hx, hb, hml, hown, hts, hr, hlk⟩ := id B
  have hl := lv_entry ([.ref (a 0), .int p1, .int p2, .ref ao]) (n := 5) (Nat.le_of_ble_eq_true rfl)
  rw [lg_entry_eq]
  generalize (lg_sl ([.ref (a 0), .int p1, .int p2, .ref ao]) ++ List.replicate (5 - (lg_sl ([.ref (a 0), .int p1, .int p2, .ref ao])).length) Slot.unset).toArray = ls at hl ⊢
  have hl : lv_has ls 5 [(0, .ref (a 0)), (1, .int p1), (2, .int p2), (3, .ref ao)] := hl
  refine lv_aload_n hx hb dL_member_0 rfl (lv_at hl 3 rfl) ?_
  refine lv_iconst (v := (0 : Int32)) hx hb dL_member_1 (by decide) ?_
  refine lv_aload_n hx hb dL_member_2 rfl (lv_at hl 0 rfl) ?_
  refine lv_iload_n hx hb dL_member_3 rfl (lv_at hl 1 rfl) ?_
  refine lv_iload_n hx hb dL_member_4 rfl (lv_at hl 2 rfl) ?_
  refine gz_xki (w2 := lwW a cA ao cL (u, f)) hS lw_le (vx_runV (As := [.int p1, .int p2]) (rest := [.int (0 : Int32), .ref ao]) ⟨hx, hb, hml, hown, hts⟩ (mX4_member hl9 (D := D) (a := a) (cA := cA) h) (cwV 2 hts glw_68 rfl rfl rfl (by decide +kernel) ⟨Nat.le_of_ble_eq_true rfl, Nat.le_of_ble_eq_true rfl⟩) (gs_preV (q0 := 0) (ci := 4) gX_ok (C.1.sub (tys' := [(cA, .int)]) [0] rfl) (lw_nd C.2.1) C.2.2 (gs_left hP) hS lw_le [.int p1, .int p2] rfl rfl) rfl rfl hl.1 rfl (lv_room (Nat.le_of_ble_eq_true rfl)) dL_member_5 (gkb _)) (fun H1 h1 hk => gs_app h1 (gs_kept (ar := [ao]) rfl (lw_ao C.2.1) (gs_right hP) hk)) (fun k0 H locs ce qe hP hS hat => ?_) (fun k0 H locs hP hS => ?_)
  · rcases hc with hc | hc | hc
    · exact absurd hc k0
    · rw [hc] at hat
      refine vx_catch (E := exN 1) (name := "java/lang/IllegalArgumentException") hown [] ⟨0, 10, 13, 13⟩ [⟨0, 10, 17, 15⟩] (by rw [htab]; rfl) (fun z hz => nomatch hz) (by decide) (by decide) (hts _ kt_172) (gX_b C.2.2 _ (by decide +kernel)) hat.1 hat.2.1 hat.2.2 ?_
      refine lv_astore (lv' := [(4, .ref qe), (0, .ref (a 0)), (1, .int p1), (2, .int p2), (3, .ref ao)]) hx hb dL_member_13 hl (by decide) rfl (fun ls hl => ?_)
      refine lv_iconst (v := (1 : Int32)) hx hb dL_member_15 (by decide) ?_
      exact gl_reti (wd := lwW a cA ao cL) (u := (u, f)) hx hb hr rfl hlk hP hS (by rw [hc]; decide) (by rw [if_neg k0]) (Nat.le_of_ble_eq_true rfl) (Nat.le_of_ble_eq_true rfl) dL_member_16
    · rw [hc] at hat
      have hps : ∀ z ∈ ([⟨0, 10, 13, 13⟩] : List ExceptionTableEntry), covers z 5 = false ∨ (z.catchType ≠ 0 ∧ ∃ nm : String, (Cond.classLink RL z.catchType nm).before ([.ref (a 0), .int p1, .int p2, .ref ao] : List Value).toArray s = true ∧ va_Nc (exN 2) nm s) := by
        intro z hz
        simp only [List.mem_cons, List.not_mem_nil, or_false] at hz
        rcases hz with rfl
        · exact Or.inr ⟨by decide, "java/lang/IllegalArgumentException", (hts _ kt_172), gX_c C.2.2 (by decide +kernel)⟩
      refine vx_catch (E := exN 2) (name := "java/lang/IndexOutOfBoundsException") hown [⟨0, 10, 13, 13⟩] ⟨0, 10, 17, 15⟩ [] (by rw [htab]; rfl) hps (by decide) (by decide) (hts _ kt_173) (gX_b C.2.2 _ (by decide +kernel)) hat.1 hat.2.1 hat.2.2 ?_
      refine lv_astore (lv' := [(4, .ref qe), (0, .ref (a 0)), (1, .int p1), (2, .int p2), (3, .ref ao)]) hx hb dL_member_17 hl (by decide) rfl (fun ls hl => ?_)
      refine lv_iconst (v := (2 : Int32)) hx hb dL_member_19 (by decide) ?_
      exact gl_reti (wd := lwW a cA ao cL) (u := (u, f)) hx hb hr rfl hlk hP hS (by rw [hc]; decide) (by rw [if_neg k0]) (Nat.le_of_ble_eq_true rfl) (Nat.le_of_ble_eq_true rfl) dL_member_20
  refine lv_i2l (v := Int32.toInt64 rv.2) hx hb dL_member_8 rfl ?_
  refine gl_last (wd := lwW a cA ao cL) (u := (u, f)) (u' := (u, (if rv.1 = 0 then vp_updL f 0 (Int32.toInt64 rv.2) else f))) hx hb (lwW_as a cA ao cL) C hP hS 28 1 rfl rfl (by unfold vp_in; decide) (by rw [if_pos k0]; rfl) dL_member_9 (fun H locs hP hS => ?_)
  refine lv_goto (tgt := 21) hx hb dL_member_10 (by decide) ?_
  refine lv_iconst (v := (0 : Int32)) hx hb dL_member_21 (by decide) ?_
  exact gl_reti (wd := lwW a cA ao cL) (u := (u, (if rv.1 = 0 then vp_updL f 0 (Int32.toInt64 rv.2) else f))) hx hb hr rfl hlk hP hS (by rw [k0]; decide) rfl (Nat.le_of_ble_eq_true rfl) (Nat.le_of_ble_eq_true rfl) dL_member_22
set_option maxHeartbeats 4000000 in
theorem mL_count {l : Launch} (hl9 : l.stackTraces = false) {D : va_G} {a : Nat → Nat} {ao : Nat} {cA cL : ClassId} {sz : Nat} {u : g_S} {f : Nat → Int64} {p1 : Int32} {rv : Nat × Int32} (h : fcJ_count u p1 = some rv) (hc : rv.1 = 0 ∨ rv.1 = 1) : gl_M D vwCl [(cA, .int), (cL, .long)] (lwA a ao) gX (lwW a cA ao cL) l yL_count wxL_count rmL_count 1 6 sz (u, f) [.ref (a 0), .int p1, .ref ao] (lwc [1] rv.1) (u, (if rv.1 = 0 then vp_updL f 0 (Int32.toInt64 rv.2) else f)) := by
  refine gl_Mof (cc := cL_count) (maxL := 4) (ret := some .int) (hh := [(0, 9, 12, 13)]) (by decide) rfl ?_
  intro p e s m below meth c B htab C hP
  have hS : va_S (rg (lwA a ao) s.heap.size) s.heap s.heap [] := va_S.rf
  obtain ⟨hx, hb, hml, hown, hts, hr, hlk⟩ := id B
  have hl := lv_entry ([.ref (a 0), .int p1, .ref ao]) (n := 4) (Nat.le_of_ble_eq_true rfl)
  rw [lg_entry_eq]
  generalize (lg_sl ([.ref (a 0), .int p1, .ref ao]) ++ List.replicate (4 - (lg_sl ([.ref (a 0), .int p1, .ref ao])).length) Slot.unset).toArray = ls at hl ⊢
  have hl : lv_has ls 4 [(0, .ref (a 0)), (1, .int p1), (2, .ref ao)] := hl
  refine lv_aload_n hx hb dL_count_0 rfl (lv_at hl 2 rfl) ?_
  refine lv_iconst (v := (0 : Int32)) hx hb dL_count_1 (by decide) ?_
  refine lv_aload_n hx hb dL_count_2 rfl (lv_at hl 0 rfl) ?_
  refine lv_iload_n hx hb dL_count_3 rfl (lv_at hl 1 rfl) ?_
  refine gz_xki (w2 := lwW a cA ao cL (u, f)) hS lw_le (vx_runV (As := [.int p1]) (rest := [.int (0 : Int32), .ref ao]) ⟨hx, hb, hml, hown, hts⟩ (mX4_count hl9 (D := D) (a := a) (cA := cA) h) (cwV 1 hts glw_71 rfl rfl rfl (by decide +kernel) ⟨Nat.le_of_ble_eq_true rfl, Nat.le_of_ble_eq_true rfl⟩) (gs_preV (q0 := 0) (ci := 4) gX_ok (C.1.sub (tys' := [(cA, .int)]) [0] rfl) (lw_nd C.2.1) C.2.2 (gs_left hP) hS lw_le [.int p1] rfl rfl) rfl rfl hl.1 rfl (lv_room (Nat.le_of_ble_eq_true rfl)) dL_count_4 (gkb _)) (fun H1 h1 hk => gs_app h1 (gs_kept (ar := [ao]) rfl (lw_ao C.2.1) (gs_right hP) hk)) (fun k0 H locs ce qe hP hS hat => ?_) (fun k0 H locs hP hS => ?_)
  · rcases hc with hc | hc
    · exact absurd hc k0
    · rw [hc] at hat
      refine vx_catch (E := exN 1) (name := "java/lang/IllegalArgumentException") hown [] ⟨0, 9, 12, 13⟩ [] (by rw [htab]; rfl) (fun z hz => nomatch hz) (by decide) (by decide) (hts _ kt_172) (gX_b C.2.2 _ (by decide +kernel)) hat.1 hat.2.1 hat.2.2 ?_
      refine lv_astore_n (lv' := [(3, .ref qe), (0, .ref (a 0)), (1, .int p1), (2, .ref ao)]) hx hb dL_count_12 rfl hl (by decide) rfl (fun ls hl => ?_)
      refine lv_iconst (v := (1 : Int32)) hx hb dL_count_13 (by decide) ?_
      exact gl_reti (wd := lwW a cA ao cL) (u := (u, f)) hx hb hr rfl hlk hP hS (by rw [hc]; decide) (by rw [if_neg k0]) (Nat.le_of_ble_eq_true rfl) (Nat.le_of_ble_eq_true rfl) dL_count_14
  refine lv_i2l (v := Int32.toInt64 rv.2) hx hb dL_count_7 rfl ?_
  refine gl_last (wd := lwW a cA ao cL) (u := (u, f)) (u' := (u, (if rv.1 = 0 then vp_updL f 0 (Int32.toInt64 rv.2) else f))) hx hb (lwW_as a cA ao cL) C hP hS 28 1 rfl rfl (by unfold vp_in; decide) (by rw [if_pos k0]; rfl) dL_count_8 (fun H locs hP hS => ?_)
  refine lv_goto (tgt := 15) hx hb dL_count_9 (by decide) ?_
  refine lv_iconst (v := (0 : Int32)) hx hb dL_count_15 (by decide) ?_
  exact gl_reti (wd := lwW a cA ao cL) (u := (u, (if rv.1 = 0 then vp_updL f 0 (Int32.toInt64 rv.2) else f))) hx hb hr rfl hlk hP hS (by rw [k0]; decide) rfl (Nat.le_of_ble_eq_true rfl) (Nat.le_of_ble_eq_true rfl) dL_count_16
