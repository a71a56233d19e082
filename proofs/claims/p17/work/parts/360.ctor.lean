set_option maxHeartbeats 8000000 in
set_option maxRecDepth 100000 in
theorem iX3_init {l : Launch} {D : va_G} {cA : ClassId} {h0 sz : Nat} : Met l yX3_init wxX3_init rmX3_init (va_Pc [.ref h0] (gi_pre D cA [(h0, .inr (3, [.null, .null, .null, .null, .null]))] sz)) (va_Qv (fun _ : Nat → Nat => True) (fun z t => va_P D vwCl [(h0, .inr (3, [.ref (z 0), .ref (z 1), .ref (z 2), .ref (z 3), .ref (z 4)])), ((z 0), .inl (cA, 8, .inl (fillG 8 (200 : Int32) (fun _ => 0)))), ((z 1), .inl (cA, 8, .inl (fillG 8 (600 : Int32) (fun _ => 0)))), ((z 2), .inl (cA, 8, .inl (fillG 8 (1 : Int32) (fun _ => 0)))), ((z 3), .inl (cA, 8, .inl (fillG 8 (2 : Int32) (fun _ => 0)))), ((z 4), .inl (cA, 256, .inl (fillG 256 (1 : Int32) (fun _ => 0))))] t.heap ∧ va_D (va_A [(h0, .inr (3, [.null, .null, .null, .null, .null]))] sz) [(h0, .inr (3, [.ref (z 0), .ref (z 1), .ref (z 2), .ref (z 3), .ref (z 4)])), ((z 0), .inl (cA, 8, .inl (fillG 8 (200 : Int32) (fun _ => 0)))), ((z 1), .inl (cA, 8, .inl (fillG 8 (600 : Int32) (fun _ => 0)))), ((z 2), .inl (cA, 8, .inl (fillG 8 (1 : Int32) (fun _ => 0)))), ((z 3), .inl (cA, 8, .inl (fillG 8 (2 : Int32) (fun _ => 0)))), ((z 4), .inl (cA, 256, .inl (fillG 256 (1 : Int32) (fun _ => 0))))]) (va_A [(h0, .inr (3, [.null, .null, .null, .null, .null]))] sz)) 5 288 (va_A [(h0, .inr (3, [.null, .null, .null, .null, .null]))] sz) := by
  refine Met.ofW (cc := cX3_init) (maxL := 1) (ret := none) (by decide) rfl ?_
  intro p e s m args below meth c s₁ B hml hv
  obtain ⟨rfl, hsz, hP, hK, hD0⟩ := hv
  have hx := B.exec
  have hb := B.bytes
  have hr := B.returns
  have hts : ∀ w ∈ gT, w.before ([Value.ref h0] : List Value).toArray s = true := fun w h => atoms_spec (ws := wxX3_init) B.pre w (List.mem_cons_of_mem _ h)
  have hown : s.vm.findClass RX3 = some m.cls := findClass_of_methodNamed B.named
  have hin : meth.name = "<init>" := (name_of_methodNamed B.named B.method).1
  subst hsz
  have hD := hD0.self (sz := s.heap.size)
  generalize hAe : va_A [(h0, .inr (3, [.null, .null, .null, .null, .null]))] s.heap.size = A at hD ⊢
  have hA : ∀ q : Nat, s.heap.size ≤ q → A q := fun q h => by rw [← hAe]; exact Or.inr h
  have hS : va_S A s.heap s.heap [] := va_S.rf
  have hl := lv_entry ([.ref h0]) (n := 1) (Nat.le_of_ble_eq_true rfl)
  rw [lg_entry_eq]
  generalize (lg_sl ([.ref h0]) ++ List.replicate (1 - (lg_sl ([.ref h0])).length) Slot.unset).toArray = ls at hl ⊢
  have hl : lv_has ls 1 [(0, .ref h0)] := hl
  refine lv_aload_n hx hb dX3_init_0 rfl (lv_at hl 0 rfl) ?_
  refine W.objInit hx hb hown (hts _ kt_30) (hts _ kt_23) (hts _ kt_24) rfl (by rw [hml]; exact hl.1) rfl dX3_init_1 (Nat.le_of_ble_eq_true rfl) (Nat.le_of_ble_eq_true rfl) ?_
  refine W.eq (g2 := F0 m 4 ls []) rfl ?_
  refine lv_aload_n hx hb dX3_init_4 rfl (lv_at hl 0 rfl) ?_
  refine lv_bipush (v := (8 : Int32)) hx hb dX3_init_5 (by decide) ?_
  refine va_newa (atype := .int) (N' := 8) (a0 := (8, .inl (fun _ => 0))) (ty := .int) (n := (8 : Int32)) hx hb (hts _ kt_55) rfl hK hP hD hS hA (fun _ => rfl) (by decide) (by decide) (by decide) (Nat.le_of_ble_eq_true rfl) (Nat.le_of_ble_eq_true rfl) dX3_init_7 (fun q1 cB H hK2 hP hD hS => ?_)
  obtain rfl := gA_eq (hK2.2 0 _ rfl).2 (hK2.2 1 _ rfl).2
  have hP : va_P D vwCl [(h0, .inr (3, [.null, .null, .null, .null, .null])), (q1, .inl (cA, 8, .inl (fun _ => 0)))] H := hP
  have hD : va_D A [(h0, .inr (3, [.null, .null, .null, .null, .null])), (q1, .inl (cA, 8, .inl (fun _ => 0)))] := hD
  refine W.widen (k := 1) (n := 8) (Nat.le_of_ble_eq_true rfl) (Nat.le_of_ble_eq_true rfl) ?_
  refine va_putF (D := D) (ci := 3) (v := .ref q1) (ty := (.array .int)) (C := RX3) (T := TX3) (N := 5) hx hb hts igX3 tyX3 tyX3_ok nmX3 hown hK hP hD hS 0 rfl rfl 0 (by decide) (hts _ kt_34) (fun _ h => h) rfl hin rfl (by decide +kernel) rfl rfl (Nat.le_of_ble_eq_true rfl) dX3_init_9 (fun H locs hP hD hS => ?_)
  have hP : va_P D vwCl [(h0, .inr (3, [.ref q1, .null, .null, .null, .null])), (q1, .inl (cA, 8, .inl (fun _ => 0)))] H := hP
  have hD : va_D A [(h0, .inr (3, [.ref q1, .null, .null, .null, .null])), (q1, .inl (cA, 8, .inl (fun _ => 0)))] := hD
  refine lv_aload_n hx hb dX3_init_12 rfl (lv_at hl 0 rfl) ?_
  refine lv_bipush (v := (8 : Int32)) hx hb dX3_init_13 (by decide) ?_
  refine va_newa (atype := .int) (N' := 8) (a0 := (8, .inl (fun _ => 0))) (ty := .int) (n := (8 : Int32)) hx hb (hts _ kt_55) rfl hK hP hD hS hA (fun _ => rfl) (by decide) (by decide) (by decide) (Nat.le_of_ble_eq_true rfl) (Nat.le_of_ble_eq_true rfl) dX3_init_15 (fun q2 cB H hK2 hP hD hS => ?_)
  obtain rfl := gA_eq (hK2.2 0 _ rfl).2 (hK2.2 1 _ rfl).2
  have hP : va_P D vwCl [(h0, .inr (3, [.ref q1, .null, .null, .null, .null])), (q1, .inl (cA, 8, .inl (fun _ => 0))), (q2, .inl (cA, 8, .inl (fun _ => 0)))] H := hP
  have hD : va_D A [(h0, .inr (3, [.ref q1, .null, .null, .null, .null])), (q1, .inl (cA, 8, .inl (fun _ => 0))), (q2, .inl (cA, 8, .inl (fun _ => 0)))] := hD
  refine W.widen (k := 2) (n := 16) (Nat.le_of_ble_eq_true rfl) (Nat.le_of_ble_eq_true rfl) ?_
  refine va_putF (D := D) (ci := 3) (v := .ref q2) (ty := (.array .int)) (C := RX3) (T := TX3) (N := 5) hx hb hts igX3 tyX3 tyX3_ok nmX3 hown hK hP hD hS 0 rfl rfl 1 (by decide) (hts _ kt_36) (fun _ h => h) rfl hin rfl (by decide +kernel) rfl rfl (Nat.le_of_ble_eq_true rfl) dX3_init_17 (fun H locs hP hD hS => ?_)
  have hP : va_P D vwCl [(h0, .inr (3, [.ref q1, .ref q2, .null, .null, .null])), (q1, .inl (cA, 8, .inl (fun _ => 0))), (q2, .inl (cA, 8, .inl (fun _ => 0)))] H := hP
  have hD : va_D A [(h0, .inr (3, [.ref q1, .ref q2, .null, .null, .null])), (q1, .inl (cA, 8, .inl (fun _ => 0))), (q2, .inl (cA, 8, .inl (fun _ => 0)))] := hD
  refine lv_aload_n hx hb dX3_init_20 rfl (lv_at hl 0 rfl) ?_
  refine lv_bipush (v := (8 : Int32)) hx hb dX3_init_21 (by decide) ?_
  refine va_newa (atype := .int) (N' := 8) (a0 := (8, .inl (fun _ => 0))) (ty := .int) (n := (8 : Int32)) hx hb (hts _ kt_55) rfl hK hP hD hS hA (fun _ => rfl) (by decide) (by decide) (by decide) (Nat.le_of_ble_eq_true rfl) (Nat.le_of_ble_eq_true rfl) dX3_init_23 (fun q3 cB H hK2 hP hD hS => ?_)
  obtain rfl := gA_eq (hK2.2 0 _ rfl).2 (hK2.2 1 _ rfl).2
  have hP : va_P D vwCl [(h0, .inr (3, [.ref q1, .ref q2, .null, .null, .null])), (q1, .inl (cA, 8, .inl (fun _ => 0))), (q2, .inl (cA, 8, .inl (fun _ => 0))), (q3, .inl (cA, 8, .inl (fun _ => 0)))] H := hP
  have hD : va_D A [(h0, .inr (3, [.ref q1, .ref q2, .null, .null, .null])), (q1, .inl (cA, 8, .inl (fun _ => 0))), (q2, .inl (cA, 8, .inl (fun _ => 0))), (q3, .inl (cA, 8, .inl (fun _ => 0)))] := hD
  refine W.widen (k := 3) (n := 24) (Nat.le_of_ble_eq_true rfl) (Nat.le_of_ble_eq_true rfl) ?_
  refine va_putF (D := D) (ci := 3) (v := .ref q3) (ty := (.array .int)) (C := RX3) (T := TX3) (N := 5) hx hb hts igX3 tyX3 tyX3_ok nmX3 hown hK hP hD hS 0 rfl rfl 2 (by decide) (hts _ kt_38) (fun _ h => h) rfl hin rfl (by decide +kernel) rfl rfl (Nat.le_of_ble_eq_true rfl) dX3_init_25 (fun H locs hP hD hS => ?_)
  have hP : va_P D vwCl [(h0, .inr (3, [.ref q1, .ref q2, .ref q3, .null, .null])), (q1, .inl (cA, 8, .inl (fun _ => 0))), (q2, .inl (cA, 8, .inl (fun _ => 0))), (q3, .inl (cA, 8, .inl (fun _ => 0)))] H := hP
  have hD : va_D A [(h0, .inr (3, [.ref q1, .ref q2, .ref q3, .null, .null])), (q1, .inl (cA, 8, .inl (fun _ => 0))), (q2, .inl (cA, 8, .inl (fun _ => 0))), (q3, .inl (cA, 8, .inl (fun _ => 0)))] := hD
  refine lv_aload_n hx hb dX3_init_28 rfl (lv_at hl 0 rfl) ?_
  refine lv_bipush (v := (8 : Int32)) hx hb dX3_init_29 (by decide) ?_
  refine va_newa (atype := .int) (N' := 8) (a0 := (8, .inl (fun _ => 0))) (ty := .int) (n := (8 : Int32)) hx hb (hts _ kt_55) rfl hK hP hD hS hA (fun _ => rfl) (by decide) (by decide) (by decide) (Nat.le_of_ble_eq_true rfl) (Nat.le_of_ble_eq_true rfl) dX3_init_31 (fun q4 cB H hK2 hP hD hS => ?_)
  obtain rfl := gA_eq (hK2.2 0 _ rfl).2 (hK2.2 1 _ rfl).2
  have hP : va_P D vwCl [(h0, .inr (3, [.ref q1, .ref q2, .ref q3, .null, .null])), (q1, .inl (cA, 8, .inl (fun _ => 0))), (q2, .inl (cA, 8, .inl (fun _ => 0))), (q3, .inl (cA, 8, .inl (fun _ => 0))), (q4, .inl (cA, 8, .inl (fun _ => 0)))] H := hP
  have hD : va_D A [(h0, .inr (3, [.ref q1, .ref q2, .ref q3, .null, .null])), (q1, .inl (cA, 8, .inl (fun _ => 0))), (q2, .inl (cA, 8, .inl (fun _ => 0))), (q3, .inl (cA, 8, .inl (fun _ => 0))), (q4, .inl (cA, 8, .inl (fun _ => 0)))] := hD
  refine W.widen (k := 4) (n := 32) (Nat.le_of_ble_eq_true rfl) (Nat.le_of_ble_eq_true rfl) ?_
  refine va_putF (D := D) (ci := 3) (v := .ref q4) (ty := (.array .int)) (C := RX3) (T := TX3) (N := 5) hx hb hts igX3 tyX3 tyX3_ok nmX3 hown hK hP hD hS 0 rfl rfl 3 (by decide) (hts _ kt_40) (fun _ h => h) rfl hin rfl (by decide +kernel) rfl rfl (Nat.le_of_ble_eq_true rfl) dX3_init_33 (fun H locs hP hD hS => ?_)
  have hP : va_P D vwCl [(h0, .inr (3, [.ref q1, .ref q2, .ref q3, .ref q4, .null])), (q1, .inl (cA, 8, .inl (fun _ => 0))), (q2, .inl (cA, 8, .inl (fun _ => 0))), (q3, .inl (cA, 8, .inl (fun _ => 0))), (q4, .inl (cA, 8, .inl (fun _ => 0)))] H := hP
  have hD : va_D A [(h0, .inr (3, [.ref q1, .ref q2, .ref q3, .ref q4, .null])), (q1, .inl (cA, 8, .inl (fun _ => 0))), (q2, .inl (cA, 8, .inl (fun _ => 0))), (q3, .inl (cA, 8, .inl (fun _ => 0))), (q4, .inl (cA, 8, .inl (fun _ => 0)))] := hD
  refine lv_aload_n hx hb dX3_init_36 rfl (lv_at hl 0 rfl) ?_
  refine lv_sipush (v := (256 : Int32)) hx hb dX3_init_37 (by decide) ?_
  refine va_newa (atype := .int) (N' := 256) (a0 := (256, .inl (fun _ => 0))) (ty := .int) (n := (256 : Int32)) hx hb (hts _ kt_55) rfl hK hP hD hS hA (fun _ => rfl) (by decide) (by decide) (by decide) (Nat.le_of_ble_eq_true rfl) (Nat.le_of_ble_eq_true rfl) dX3_init_40 (fun q5 cB H hK2 hP hD hS => ?_)
  obtain rfl := gA_eq (hK2.2 0 _ rfl).2 (hK2.2 1 _ rfl).2
  have hP : va_P D vwCl [(h0, .inr (3, [.ref q1, .ref q2, .ref q3, .ref q4, .null])), (q1, .inl (cA, 8, .inl (fun _ => 0))), (q2, .inl (cA, 8, .inl (fun _ => 0))), (q3, .inl (cA, 8, .inl (fun _ => 0))), (q4, .inl (cA, 8, .inl (fun _ => 0))), (q5, .inl (cA, 256, .inl (fun _ => 0)))] H := hP
  have hD : va_D A [(h0, .inr (3, [.ref q1, .ref q2, .ref q3, .ref q4, .null])), (q1, .inl (cA, 8, .inl (fun _ => 0))), (q2, .inl (cA, 8, .inl (fun _ => 0))), (q3, .inl (cA, 8, .inl (fun _ => 0))), (q4, .inl (cA, 8, .inl (fun _ => 0))), (q5, .inl (cA, 256, .inl (fun _ => 0)))] := hD
  refine W.widen (k := 5) (n := 288) (Nat.le_of_ble_eq_true rfl) (Nat.le_of_ble_eq_true rfl) ?_
  refine va_putF (D := D) (ci := 3) (v := .ref q5) (ty := (.array .int)) (C := RX3) (T := TX3) (N := 5) hx hb hts igX3 tyX3 tyX3_ok nmX3 hown hK hP hD hS 0 rfl rfl 4 (by decide) (hts _ kt_42) (fun _ h => h) rfl hin rfl (by decide +kernel) rfl rfl (Nat.le_of_ble_eq_true rfl) dX3_init_42 (fun H locs hP hD hS => ?_)
  have hP : va_P D vwCl [(h0, .inr (3, [.ref q1, .ref q2, .ref q3, .ref q4, .ref q5])), (q1, .inl (cA, 8, .inl (fun _ => 0))), (q2, .inl (cA, 8, .inl (fun _ => 0))), (q3, .inl (cA, 8, .inl (fun _ => 0))), (q4, .inl (cA, 8, .inl (fun _ => 0))), (q5, .inl (cA, 256, .inl (fun _ => 0)))] H := hP
  have hD : va_D A [(h0, .inr (3, [.ref q1, .ref q2, .ref q3, .ref q4, .ref q5])), (q1, .inl (cA, 8, .inl (fun _ => 0))), (q2, .inl (cA, 8, .inl (fun _ => 0))), (q3, .inl (cA, 8, .inl (fun _ => 0))), (q4, .inl (cA, 8, .inl (fun _ => 0))), (q5, .inl (cA, 256, .inl (fun _ => 0)))] := hD
  refine lv_aload_n hx hb dX3_init_45 rfl (lv_at hl 0 rfl) ?_
  refine va_get (C := RX3) (T := TX3) (N := 5) (ci := 3) hx hb hts igX3 hown hK hP 0 rfl rfl 0 (by decide) (hts _ kt_34) (fun _ h => h) rfl dX3_init_46 ?_
  refine lv_sipush (v := (200 : Int32)) hx hb dX3_init_49 (by decide) ?_
  have hPc := hP.sub (ws' := [(q1, .inl (cA, 8, .inl (fun _ => 0)))]) [1] rfl
  have hDc := hD.sub (ws' := [(q1, .inl (cA, 8, .inl (fun _ => 0)))]) [1] (by decide) rfl
  have hFc := va_free (wc := [(q1, .inl (cA, 8, .inl (fun _ => 0)))]) hD hS hA [1] rfl
  refine va_callv (va_runS (As := [.ref q1, .int (200 : Int32)]) (rest := []) ⟨hx, hb, hml, hown, hts⟩ (i_fill (l := l) (D := D) (cA := cA) (h0 := q1) (n := 8) (f := (fun _ => 0)) (x := (200 : Int32)) (sz := H.size) (by decide)) (va_cwS 2 hts g_fill_27 rfl rfl rfl (by decide +kernel) ⟨Nat.le_of_ble_eq_true rfl, Nat.le_of_ble_eq_true rfl⟩) ⟨gi_blind, fun U hU hW => ⟨rfl, by rw [hU], by rw [hU]; exact hPc, va_K.moved hW.alike hK, hDc.weaken (fun _ _ _ _ => trivial)⟩⟩ rfl rfl hl.1 rfl (lv_room (Nat.le_of_ble_eq_true rfl)) dX3_init_52 ⟨Nat.le_of_ble_eq_true rfl, Nat.le_of_ble_eq_true rfl⟩) hS (fun q _ h => hFc q h) hFc (fun z t H1 locs ht hvm hw hB hz1 hk1 hS => ?_)
  obtain ⟨hP1, hD1⟩ := hB
  rw [ht] at hP1
  obtain ⟨hP, hD⟩ := va_join (wr := [(h0, .inr (3, [.ref q1, .ref q2, .ref q3, .ref q4, .ref q5])), (q2, .inl (cA, 8, .inl (fun _ => 0))), (q3, .inl (cA, 8, .inl (fun _ => 0))), (q4, .inl (cA, 8, .inl (fun _ => 0))), (q5, .inl (cA, 256, .inl (fun _ => 0)))]) (w1 := [(q1, .inl (cA, 8, .inl (fillG 8 (200 : Int32) (fun _ => 0))))]) hP hD [1] [0, 2, 3, 4, 5] rfl rfl (by decide) (by decide) hk1 hFc hP1 hD1
  generalize H1 = H at hP hS ⊢
  have hP : va_P D vwCl [(h0, .inr (3, [.ref q1, .ref q2, .ref q3, .ref q4, .ref q5])), (q2, .inl (cA, 8, .inl (fun _ => 0))), (q3, .inl (cA, 8, .inl (fun _ => 0))), (q4, .inl (cA, 8, .inl (fun _ => 0))), (q5, .inl (cA, 256, .inl (fun _ => 0))), (q1, .inl (cA, 8, .inl (fillG 8 (200 : Int32) (fun _ => 0))))] H := hP
  have hD : va_D A [(h0, .inr (3, [.ref q1, .ref q2, .ref q3, .ref q4, .ref q5])), (q2, .inl (cA, 8, .inl (fun _ => 0))), (q3, .inl (cA, 8, .inl (fun _ => 0))), (q4, .inl (cA, 8, .inl (fun _ => 0))), (q5, .inl (cA, 256, .inl (fun _ => 0))), (q1, .inl (cA, 8, .inl (fillG 8 (200 : Int32) (fun _ => 0))))] := hD
  refine lv_aload_n hx hb dX3_init_55 rfl (lv_at hl 0 rfl) ?_
  refine va_get (C := RX3) (T := TX3) (N := 5) (ci := 3) hx hb hts igX3 hown hK hP 0 rfl rfl 1 (by decide) (hts _ kt_36) (fun _ h => h) rfl dX3_init_56 ?_
  refine lv_sipush (v := (600 : Int32)) hx hb dX3_init_59 (by decide) ?_
  have hPc := hP.sub (ws' := [(q2, .inl (cA, 8, .inl (fun _ => 0)))]) [1] rfl
  have hDc := hD.sub (ws' := [(q2, .inl (cA, 8, .inl (fun _ => 0)))]) [1] (by decide) rfl
  have hFc := va_free (wc := [(q2, .inl (cA, 8, .inl (fun _ => 0)))]) hD hS hA [1] rfl
  refine va_callv (va_runS (As := [.ref q2, .int (600 : Int32)]) (rest := []) ⟨hx, hb, hml, hown, hts⟩ (i_fill (l := l) (D := D) (cA := cA) (h0 := q2) (n := 8) (f := (fun _ => 0)) (x := (600 : Int32)) (sz := H.size) (by decide)) (va_cwS 2 hts g_fill_27 rfl rfl rfl (by decide +kernel) ⟨Nat.le_of_ble_eq_true rfl, Nat.le_of_ble_eq_true rfl⟩) ⟨gi_blind, fun U hU hW => ⟨rfl, by rw [hU], by rw [hU]; exact hPc, va_K.moved hW.alike hK, hDc.weaken (fun _ _ _ _ => trivial)⟩⟩ rfl rfl hl.1 rfl (lv_room (Nat.le_of_ble_eq_true rfl)) dX3_init_62 ⟨Nat.le_of_ble_eq_true rfl, Nat.le_of_ble_eq_true rfl⟩) hS (fun q _ h => hFc q h) hFc (fun z t H1 locs ht hvm hw hB hz1 hk1 hS => ?_)
  obtain ⟨hP1, hD1⟩ := hB
  rw [ht] at hP1
  obtain ⟨hP, hD⟩ := va_join (wr := [(h0, .inr (3, [.ref q1, .ref q2, .ref q3, .ref q4, .ref q5])), (q3, .inl (cA, 8, .inl (fun _ => 0))), (q4, .inl (cA, 8, .inl (fun _ => 0))), (q5, .inl (cA, 256, .inl (fun _ => 0))), (q1, .inl (cA, 8, .inl (fillG 8 (200 : Int32) (fun _ => 0))))]) (w1 := [(q2, .inl (cA, 8, .inl (fillG 8 (600 : Int32) (fun _ => 0))))]) hP hD [1] [0, 2, 3, 4, 5] rfl rfl (by decide) (by decide) hk1 hFc hP1 hD1
  generalize H1 = H at hP hS ⊢
  have hP : va_P D vwCl [(h0, .inr (3, [.ref q1, .ref q2, .ref q3, .ref q4, .ref q5])), (q3, .inl (cA, 8, .inl (fun _ => 0))), (q4, .inl (cA, 8, .inl (fun _ => 0))), (q5, .inl (cA, 256, .inl (fun _ => 0))), (q1, .inl (cA, 8, .inl (fillG 8 (200 : Int32) (fun _ => 0)))), (q2, .inl (cA, 8, .inl (fillG 8 (600 : Int32) (fun _ => 0))))] H := hP
  have hD : va_D A [(h0, .inr (3, [.ref q1, .ref q2, .ref q3, .ref q4, .ref q5])), (q3, .inl (cA, 8, .inl (fun _ => 0))), (q4, .inl (cA, 8, .inl (fun _ => 0))), (q5, .inl (cA, 256, .inl (fun _ => 0))), (q1, .inl (cA, 8, .inl (fillG 8 (200 : Int32) (fun _ => 0)))), (q2, .inl (cA, 8, .inl (fillG 8 (600 : Int32) (fun _ => 0))))] := hD
  refine lv_aload_n hx hb dX3_init_65 rfl (lv_at hl 0 rfl) ?_
  refine va_get (C := RX3) (T := TX3) (N := 5) (ci := 3) hx hb hts igX3 hown hK hP 0 rfl rfl 2 (by decide) (hts _ kt_38) (fun _ h => h) rfl dX3_init_66 ?_
  refine lv_iconst (v := (1 : Int32)) hx hb dX3_init_69 (by decide) ?_
  have hPc := hP.sub (ws' := [(q3, .inl (cA, 8, .inl (fun _ => 0)))]) [1] rfl
  have hDc := hD.sub (ws' := [(q3, .inl (cA, 8, .inl (fun _ => 0)))]) [1] (by decide) rfl
  have hFc := va_free (wc := [(q3, .inl (cA, 8, .inl (fun _ => 0)))]) hD hS hA [1] rfl
  refine va_callv (va_runS (As := [.ref q3, .int (1 : Int32)]) (rest := []) ⟨hx, hb, hml, hown, hts⟩ (i_fill (l := l) (D := D) (cA := cA) (h0 := q3) (n := 8) (f := (fun _ => 0)) (x := (1 : Int32)) (sz := H.size) (by decide)) (va_cwS 2 hts g_fill_27 rfl rfl rfl (by decide +kernel) ⟨Nat.le_of_ble_eq_true rfl, Nat.le_of_ble_eq_true rfl⟩) ⟨gi_blind, fun U hU hW => ⟨rfl, by rw [hU], by rw [hU]; exact hPc, va_K.moved hW.alike hK, hDc.weaken (fun _ _ _ _ => trivial)⟩⟩ rfl rfl hl.1 rfl (lv_room (Nat.le_of_ble_eq_true rfl)) dX3_init_70 ⟨Nat.le_of_ble_eq_true rfl, Nat.le_of_ble_eq_true rfl⟩) hS (fun q _ h => hFc q h) hFc (fun z t H1 locs ht hvm hw hB hz1 hk1 hS => ?_)
  obtain ⟨hP1, hD1⟩ := hB
  rw [ht] at hP1
  obtain ⟨hP, hD⟩ := va_join (wr := [(h0, .inr (3, [.ref q1, .ref q2, .ref q3, .ref q4, .ref q5])), (q4, .inl (cA, 8, .inl (fun _ => 0))), (q5, .inl (cA, 256, .inl (fun _ => 0))), (q1, .inl (cA, 8, .inl (fillG 8 (200 : Int32) (fun _ => 0)))), (q2, .inl (cA, 8, .inl (fillG 8 (600 : Int32) (fun _ => 0))))]) (w1 := [(q3, .inl (cA, 8, .inl (fillG 8 (1 : Int32) (fun _ => 0))))]) hP hD [1] [0, 2, 3, 4, 5] rfl rfl (by decide) (by decide) hk1 hFc hP1 hD1
  generalize H1 = H at hP hS ⊢
  have hP : va_P D vwCl [(h0, .inr (3, [.ref q1, .ref q2, .ref q3, .ref q4, .ref q5])), (q4, .inl (cA, 8, .inl (fun _ => 0))), (q5, .inl (cA, 256, .inl (fun _ => 0))), (q1, .inl (cA, 8, .inl (fillG 8 (200 : Int32) (fun _ => 0)))), (q2, .inl (cA, 8, .inl (fillG 8 (600 : Int32) (fun _ => 0)))), (q3, .inl (cA, 8, .inl (fillG 8 (1 : Int32) (fun _ => 0))))] H := hP
  have hD : va_D A [(h0, .inr (3, [.ref q1, .ref q2, .ref q3, .ref q4, .ref q5])), (q4, .inl (cA, 8, .inl (fun _ => 0))), (q5, .inl (cA, 256, .inl (fun _ => 0))), (q1, .inl (cA, 8, .inl (fillG 8 (200 : Int32) (fun _ => 0)))), (q2, .inl (cA, 8, .inl (fillG 8 (600 : Int32) (fun _ => 0)))), (q3, .inl (cA, 8, .inl (fillG 8 (1 : Int32) (fun _ => 0))))] := hD
  refine lv_aload_n hx hb dX3_init_73 rfl (lv_at hl 0 rfl) ?_
  refine va_get (C := RX3) (T := TX3) (N := 5) (ci := 3) hx hb hts igX3 hown hK hP 0 rfl rfl 3 (by decide) (hts _ kt_40) (fun _ h => h) rfl dX3_init_74 ?_
  refine lv_iconst (v := (2 : Int32)) hx hb dX3_init_77 (by decide) ?_
  have hPc := hP.sub (ws' := [(q4, .inl (cA, 8, .inl (fun _ => 0)))]) [1] rfl
  have hDc := hD.sub (ws' := [(q4, .inl (cA, 8, .inl (fun _ => 0)))]) [1] (by decide) rfl
  have hFc := va_free (wc := [(q4, .inl (cA, 8, .inl (fun _ => 0)))]) hD hS hA [1] rfl
  refine va_callv (va_runS (As := [.ref q4, .int (2 : Int32)]) (rest := []) ⟨hx, hb, hml, hown, hts⟩ (i_fill (l := l) (D := D) (cA := cA) (h0 := q4) (n := 8) (f := (fun _ => 0)) (x := (2 : Int32)) (sz := H.size) (by decide)) (va_cwS 2 hts g_fill_27 rfl rfl rfl (by decide +kernel) ⟨Nat.le_of_ble_eq_true rfl, Nat.le_of_ble_eq_true rfl⟩) ⟨gi_blind, fun U hU hW => ⟨rfl, by rw [hU], by rw [hU]; exact hPc, va_K.moved hW.alike hK, hDc.weaken (fun _ _ _ _ => trivial)⟩⟩ rfl rfl hl.1 rfl (lv_room (Nat.le_of_ble_eq_true rfl)) dX3_init_78 ⟨Nat.le_of_ble_eq_true rfl, Nat.le_of_ble_eq_true rfl⟩) hS (fun q _ h => hFc q h) hFc (fun z t H1 locs ht hvm hw hB hz1 hk1 hS => ?_)
  obtain ⟨hP1, hD1⟩ := hB
  rw [ht] at hP1
  obtain ⟨hP, hD⟩ := va_join (wr := [(h0, .inr (3, [.ref q1, .ref q2, .ref q3, .ref q4, .ref q5])), (q5, .inl (cA, 256, .inl (fun _ => 0))), (q1, .inl (cA, 8, .inl (fillG 8 (200 : Int32) (fun _ => 0)))), (q2, .inl (cA, 8, .inl (fillG 8 (600 : Int32) (fun _ => 0)))), (q3, .inl (cA, 8, .inl (fillG 8 (1 : Int32) (fun _ => 0))))]) (w1 := [(q4, .inl (cA, 8, .inl (fillG 8 (2 : Int32) (fun _ => 0))))]) hP hD [1] [0, 2, 3, 4, 5] rfl rfl (by decide) (by decide) hk1 hFc hP1 hD1
  generalize H1 = H at hP hS ⊢
  have hP : va_P D vwCl [(h0, .inr (3, [.ref q1, .ref q2, .ref q3, .ref q4, .ref q5])), (q5, .inl (cA, 256, .inl (fun _ => 0))), (q1, .inl (cA, 8, .inl (fillG 8 (200 : Int32) (fun _ => 0)))), (q2, .inl (cA, 8, .inl (fillG 8 (600 : Int32) (fun _ => 0)))), (q3, .inl (cA, 8, .inl (fillG 8 (1 : Int32) (fun _ => 0)))), (q4, .inl (cA, 8, .inl (fillG 8 (2 : Int32) (fun _ => 0))))] H := hP
  have hD : va_D A [(h0, .inr (3, [.ref q1, .ref q2, .ref q3, .ref q4, .ref q5])), (q5, .inl (cA, 256, .inl (fun _ => 0))), (q1, .inl (cA, 8, .inl (fillG 8 (200 : Int32) (fun _ => 0)))), (q2, .inl (cA, 8, .inl (fillG 8 (600 : Int32) (fun _ => 0)))), (q3, .inl (cA, 8, .inl (fillG 8 (1 : Int32) (fun _ => 0)))), (q4, .inl (cA, 8, .inl (fillG 8 (2 : Int32) (fun _ => 0))))] := hD
  refine lv_aload_n hx hb dX3_init_81 rfl (lv_at hl 0 rfl) ?_
  refine va_get (C := RX3) (T := TX3) (N := 5) (ci := 3) hx hb hts igX3 hown hK hP 0 rfl rfl 4 (by decide) (hts _ kt_42) (fun _ h => h) rfl dX3_init_82 ?_
  refine lv_iconst (v := (1 : Int32)) hx hb dX3_init_85 (by decide) ?_
  have hPc := hP.sub (ws' := [(q5, .inl (cA, 256, .inl (fun _ => 0)))]) [1] rfl
  have hDc := hD.sub (ws' := [(q5, .inl (cA, 256, .inl (fun _ => 0)))]) [1] (by decide) rfl
  have hFc := va_free (wc := [(q5, .inl (cA, 256, .inl (fun _ => 0)))]) hD hS hA [1] rfl
  refine va_callv (va_runS (As := [.ref q5, .int (1 : Int32)]) (rest := []) ⟨hx, hb, hml, hown, hts⟩ (i_fill (l := l) (D := D) (cA := cA) (h0 := q5) (n := 256) (f := (fun _ => 0)) (x := (1 : Int32)) (sz := H.size) (by decide)) (va_cwS 2 hts g_fill_27 rfl rfl rfl (by decide +kernel) ⟨Nat.le_of_ble_eq_true rfl, Nat.le_of_ble_eq_true rfl⟩) ⟨gi_blind, fun U hU hW => ⟨rfl, by rw [hU], by rw [hU]; exact hPc, va_K.moved hW.alike hK, hDc.weaken (fun _ _ _ _ => trivial)⟩⟩ rfl rfl hl.1 rfl (lv_room (Nat.le_of_ble_eq_true rfl)) dX3_init_86 ⟨Nat.le_of_ble_eq_true rfl, Nat.le_of_ble_eq_true rfl⟩) hS (fun q _ h => hFc q h) hFc (fun z t H1 locs ht hvm hw hB hz1 hk1 hS => ?_)
  obtain ⟨hP1, hD1⟩ := hB
  rw [ht] at hP1
  obtain ⟨hP, hD⟩ := va_join (wr := [(h0, .inr (3, [.ref q1, .ref q2, .ref q3, .ref q4, .ref q5])), (q1, .inl (cA, 8, .inl (fillG 8 (200 : Int32) (fun _ => 0)))), (q2, .inl (cA, 8, .inl (fillG 8 (600 : Int32) (fun _ => 0)))), (q3, .inl (cA, 8, .inl (fillG 8 (1 : Int32) (fun _ => 0)))), (q4, .inl (cA, 8, .inl (fillG 8 (2 : Int32) (fun _ => 0))))]) (w1 := [(q5, .inl (cA, 256, .inl (fillG 256 (1 : Int32) (fun _ => 0))))]) hP hD [1] [0, 2, 3, 4, 5] rfl rfl (by decide) (by decide) hk1 hFc hP1 hD1
  generalize H1 = H at hP hS ⊢
  have hP : va_P D vwCl [(h0, .inr (3, [.ref q1, .ref q2, .ref q3, .ref q4, .ref q5])), (q1, .inl (cA, 8, .inl (fillG 8 (200 : Int32) (fun _ => 0)))), (q2, .inl (cA, 8, .inl (fillG 8 (600 : Int32) (fun _ => 0)))), (q3, .inl (cA, 8, .inl (fillG 8 (1 : Int32) (fun _ => 0)))), (q4, .inl (cA, 8, .inl (fillG 8 (2 : Int32) (fun _ => 0)))), (q5, .inl (cA, 256, .inl (fillG 256 (1 : Int32) (fun _ => 0))))] H := hP
  have hD : va_D A [(h0, .inr (3, [.ref q1, .ref q2, .ref q3, .ref q4, .ref q5])), (q1, .inl (cA, 8, .inl (fillG 8 (200 : Int32) (fun _ => 0)))), (q2, .inl (cA, 8, .inl (fillG 8 (600 : Int32) (fun _ => 0)))), (q3, .inl (cA, 8, .inl (fillG 8 (1 : Int32) (fun _ => 0)))), (q4, .inl (cA, 8, .inl (fillG 8 (2 : Int32) (fun _ => 0)))), (q5, .inl (cA, 256, .inl (fillG 256 (1 : Int32) (fun _ => 0))))] := hD
  have hP9 := hP.sub (ws' := [(h0, .inr (3, [.ref q1, .ref q2, .ref q3, .ref q4, .ref q5])), (q1, .inl (cA, 8, .inl (fillG 8 (200 : Int32) (fun _ => 0)))), (q2, .inl (cA, 8, .inl (fillG 8 (600 : Int32) (fun _ => 0)))), (q3, .inl (cA, 8, .inl (fillG 8 (1 : Int32) (fun _ => 0)))), (q4, .inl (cA, 8, .inl (fillG 8 (2 : Int32) (fun _ => 0)))), (q5, .inl (cA, 256, .inl (fillG 256 (1 : Int32) (fun _ => 0))))]) [0, 1, 2, 3, 4, 5] rfl
  have hD9 := hD.sub (ws' := [(h0, .inr (3, [.ref q1, .ref q2, .ref q3, .ref q4, .ref q5])), (q1, .inl (cA, 8, .inl (fillG 8 (200 : Int32) (fun _ => 0)))), (q2, .inl (cA, 8, .inl (fillG 8 (600 : Int32) (fun _ => 0)))), (q3, .inl (cA, 8, .inl (fillG 8 (1 : Int32) (fun _ => 0)))), (q4, .inl (cA, 8, .inl (fillG 8 (2 : Int32) (fun _ => 0)))), (q5, .inl (cA, 256, .inl (fillG 256 (1 : Int32) (fun _ => 0))))]) [0, 1, 2, 3, 4, 5] (by decide) rfl
  exact W.vret hx hb hr (fun t ht hW => ⟨⟨(fun j => ([q1, q2, q3, q4, q5] : List Nat).getD j 0), rfl, trivial, by rw [ht]; exact hP9, hD9⟩, hS.F ht⟩) hS.2.2 dX3_init_89
