set_option maxHeartbeats 8000000 in
set_option maxRecDepth 100000 in
theorem iX1_init {l : Launch} {D : va_G} {cA : ClassId} {h0 sz : Nat} : Met l yX1_init wxX1_init rmX1_init (va_Pc [.ref h0] (gi_pre D cA [(h0, .inr (1, [.int 0, .null, .null, .null, .null, .null, .null]))] sz)) (va_Qv (fun _ : Nat → Nat => True) (fun z t => va_P D vwCl [(h0, .inr (1, [.int 0, .ref (z 0), .ref (z 1), .ref (z 2), .ref (z 3), .ref (z 4), .ref (z 5)])), ((z 0), .inl (cA, 60, .inl (fun _ => 0))), ((z 1), .inl (cA, 60, .inl (fun _ => 0))), ((z 2), .inl (cA, 60, .inl (fun _ => 0))), ((z 3), .inl (cA, 60, .inl (fun _ => 0))), ((z 4), .inl (cA, 60, .inl (fun _ => 0))), ((z 5), .inl (cA, 60, .inl (fun _ => 0)))] t.heap ∧ va_D (va_A [(h0, .inr (1, [.int 0, .null, .null, .null, .null, .null, .null]))] sz) [(h0, .inr (1, [.int 0, .ref (z 0), .ref (z 1), .ref (z 2), .ref (z 3), .ref (z 4), .ref (z 5)])), ((z 0), .inl (cA, 60, .inl (fun _ => 0))), ((z 1), .inl (cA, 60, .inl (fun _ => 0))), ((z 2), .inl (cA, 60, .inl (fun _ => 0))), ((z 3), .inl (cA, 60, .inl (fun _ => 0))), ((z 4), .inl (cA, 60, .inl (fun _ => 0))), ((z 5), .inl (cA, 60, .inl (fun _ => 0)))]) (va_A [(h0, .inr (1, [.int 0, .null, .null, .null, .null, .null, .null]))] sz)) 6 360 (va_A [(h0, .inr (1, [.int 0, .null, .null, .null, .null, .null, .null]))] sz) := by
  refine Met.ofW (cc := cX1_init) (maxL := 1) (ret := none) (by decide) rfl ?_
  intro p e s m args below meth c s₁ B hml hv
  obtain ⟨rfl, hsz, hP, hK, hD0⟩ := hv
  have hx := B.exec
  have hb := B.bytes
  have hr := B.returns
  have hts : ∀ w ∈ gT, w.before ([Value.ref h0] : List Value).toArray s = true := fun w h => atoms_spec (ws := wxX1_init) B.pre w (List.mem_cons_of_mem _ h)
  have hown : s.vm.findClass RX1 = some m.cls := findClass_of_methodNamed B.named
  have hin : meth.name = "<init>" := (name_of_methodNamed B.named B.method).1
  subst hsz
  have hD := hD0.self (sz := s.heap.size)
  generalize hAe : va_A [(h0, .inr (1, [.int 0, .null, .null, .null, .null, .null, .null]))] s.heap.size = A at hD ⊢
  have hA : ∀ q : Nat, s.heap.size ≤ q → A q := fun q h => by rw [← hAe]; exact Or.inr h
  have hS : va_S A s.heap s.heap [] := va_S.rf
  have hl := lv_entry ([.ref h0]) (n := 1) (Nat.le_of_ble_eq_true rfl)
  rw [lg_entry_eq]
  generalize (lg_sl ([.ref h0]) ++ List.replicate (1 - (lg_sl ([.ref h0])).length) Slot.unset).toArray = ls at hl ⊢
  have hl : lv_has ls 1 [(0, .ref h0)] := hl
  refine lv_aload_n hx hb dX1_init_0 rfl (lv_at hl 0 rfl) ?_
  refine W.objInit hx hb hown (hts _ kt_126) (hts _ kt_23) (hts _ kt_24) rfl (by rw [hml]; exact hl.1) rfl dX1_init_1 (Nat.le_of_ble_eq_true rfl) (Nat.le_of_ble_eq_true rfl) ?_
  refine W.eq (g2 := F0 m 4 ls []) rfl ?_
  refine lv_aload_n hx hb dX1_init_4 rfl (lv_at hl 0 rfl) ?_
  refine lv_iconst (v := (0 : Int32)) hx hb dX1_init_5 (by decide) ?_
  refine va_put (D := D) (ci := 1) (v := .int (0 : Int32)) (ty := .int) (C := RX1) (T := TX1) (N := 7) hx hb hts igX1 tyX1 tyX1_ok nmX1 hown hK hP hD hS 0 rfl rfl 0 (by decide) (hts _ kt_127) (fun _ h => h) rfl (by decide +kernel) rfl rfl (Nat.le_of_ble_eq_true rfl) dX1_init_6 (fun H locs hP hD hS => ?_)
  have hP : va_P D vwCl [(h0, .inr (1, [.int 0, .null, .null, .null, .null, .null, .null]))] H := hP
  have hD : va_D A [(h0, .inr (1, [.int 0, .null, .null, .null, .null, .null, .null]))] := hD
  refine lv_aload_n hx hb dX1_init_9 rfl (lv_at hl 0 rfl) ?_
  refine lv_bipush (v := (60 : Int32)) hx hb dX1_init_10 (by decide) ?_
  refine va_newa (atype := .int) (N' := 60) (a0 := (60, .inl (fun _ => 0))) (ty := .int) (n := (60 : Int32)) hx hb (hts _ kt_55) rfl hK hP hD hS hA (fun _ => rfl) (by decide) (by decide) (by decide) (Nat.le_of_ble_eq_true rfl) (Nat.le_of_ble_eq_true rfl) dX1_init_12 (fun q1 cB H hK2 hP hD hS => ?_)
  obtain rfl := gA_eq (hK2.2 0 _ rfl).2 (hK2.2 1 _ rfl).2
  have hP : va_P D vwCl [(h0, .inr (1, [.int 0, .null, .null, .null, .null, .null, .null])), (q1, .inl (cA, 60, .inl (fun _ => 0)))] H := hP
  have hD : va_D A [(h0, .inr (1, [.int 0, .null, .null, .null, .null, .null, .null])), (q1, .inl (cA, 60, .inl (fun _ => 0)))] := hD
  refine W.widen (k := 1) (n := 60) (Nat.le_of_ble_eq_true rfl) (Nat.le_of_ble_eq_true rfl) ?_
  refine va_putF (D := D) (ci := 1) (v := .ref q1) (ty := (.array .int)) (C := RX1) (T := TX1) (N := 7) hx hb hts igX1 tyX1 tyX1_ok nmX1 hown hK hP hD hS 0 rfl rfl 1 (by decide) (hts _ kt_129) (fun _ h => h) rfl hin rfl (by decide +kernel) rfl rfl (Nat.le_of_ble_eq_true rfl) dX1_init_14 (fun H locs hP hD hS => ?_)
  have hP : va_P D vwCl [(h0, .inr (1, [.int 0, .ref q1, .null, .null, .null, .null, .null])), (q1, .inl (cA, 60, .inl (fun _ => 0)))] H := hP
  have hD : va_D A [(h0, .inr (1, [.int 0, .ref q1, .null, .null, .null, .null, .null])), (q1, .inl (cA, 60, .inl (fun _ => 0)))] := hD
  refine lv_aload_n hx hb dX1_init_17 rfl (lv_at hl 0 rfl) ?_
  refine lv_bipush (v := (60 : Int32)) hx hb dX1_init_18 (by decide) ?_
  refine va_newa (atype := .int) (N' := 60) (a0 := (60, .inl (fun _ => 0))) (ty := .int) (n := (60 : Int32)) hx hb (hts _ kt_55) rfl hK hP hD hS hA (fun _ => rfl) (by decide) (by decide) (by decide) (Nat.le_of_ble_eq_true rfl) (Nat.le_of_ble_eq_true rfl) dX1_init_20 (fun q2 cB H hK2 hP hD hS => ?_)
  obtain rfl := gA_eq (hK2.2 0 _ rfl).2 (hK2.2 1 _ rfl).2
  have hP : va_P D vwCl [(h0, .inr (1, [.int 0, .ref q1, .null, .null, .null, .null, .null])), (q1, .inl (cA, 60, .inl (fun _ => 0))), (q2, .inl (cA, 60, .inl (fun _ => 0)))] H := hP
  have hD : va_D A [(h0, .inr (1, [.int 0, .ref q1, .null, .null, .null, .null, .null])), (q1, .inl (cA, 60, .inl (fun _ => 0))), (q2, .inl (cA, 60, .inl (fun _ => 0)))] := hD
  refine W.widen (k := 2) (n := 120) (Nat.le_of_ble_eq_true rfl) (Nat.le_of_ble_eq_true rfl) ?_
  refine va_putF (D := D) (ci := 1) (v := .ref q2) (ty := (.array .int)) (C := RX1) (T := TX1) (N := 7) hx hb hts igX1 tyX1 tyX1_ok nmX1 hown hK hP hD hS 0 rfl rfl 2 (by decide) (hts _ kt_131) (fun _ h => h) rfl hin rfl (by decide +kernel) rfl rfl (Nat.le_of_ble_eq_true rfl) dX1_init_22 (fun H locs hP hD hS => ?_)
  have hP : va_P D vwCl [(h0, .inr (1, [.int 0, .ref q1, .ref q2, .null, .null, .null, .null])), (q1, .inl (cA, 60, .inl (fun _ => 0))), (q2, .inl (cA, 60, .inl (fun _ => 0)))] H := hP
  have hD : va_D A [(h0, .inr (1, [.int 0, .ref q1, .ref q2, .null, .null, .null, .null])), (q1, .inl (cA, 60, .inl (fun _ => 0))), (q2, .inl (cA, 60, .inl (fun _ => 0)))] := hD
  refine lv_aload_n hx hb dX1_init_25 rfl (lv_at hl 0 rfl) ?_
  refine lv_bipush (v := (60 : Int32)) hx hb dX1_init_26 (by decide) ?_
  refine va_newa (atype := .int) (N' := 60) (a0 := (60, .inl (fun _ => 0))) (ty := .int) (n := (60 : Int32)) hx hb (hts _ kt_55) rfl hK hP hD hS hA (fun _ => rfl) (by decide) (by decide) (by decide) (Nat.le_of_ble_eq_true rfl) (Nat.le_of_ble_eq_true rfl) dX1_init_28 (fun q3 cB H hK2 hP hD hS => ?_)
  obtain rfl := gA_eq (hK2.2 0 _ rfl).2 (hK2.2 1 _ rfl).2
  have hP : va_P D vwCl [(h0, .inr (1, [.int 0, .ref q1, .ref q2, .null, .null, .null, .null])), (q1, .inl (cA, 60, .inl (fun _ => 0))), (q2, .inl (cA, 60, .inl (fun _ => 0))), (q3, .inl (cA, 60, .inl (fun _ => 0)))] H := hP
  have hD : va_D A [(h0, .inr (1, [.int 0, .ref q1, .ref q2, .null, .null, .null, .null])), (q1, .inl (cA, 60, .inl (fun _ => 0))), (q2, .inl (cA, 60, .inl (fun _ => 0))), (q3, .inl (cA, 60, .inl (fun _ => 0)))] := hD
  refine W.widen (k := 3) (n := 180) (Nat.le_of_ble_eq_true rfl) (Nat.le_of_ble_eq_true rfl) ?_
  refine va_putF (D := D) (ci := 1) (v := .ref q3) (ty := (.array .int)) (C := RX1) (T := TX1) (N := 7) hx hb hts igX1 tyX1 tyX1_ok nmX1 hown hK hP hD hS 0 rfl rfl 3 (by decide) (hts _ kt_133) (fun _ h => h) rfl hin rfl (by decide +kernel) rfl rfl (Nat.le_of_ble_eq_true rfl) dX1_init_30 (fun H locs hP hD hS => ?_)
  have hP : va_P D vwCl [(h0, .inr (1, [.int 0, .ref q1, .ref q2, .ref q3, .null, .null, .null])), (q1, .inl (cA, 60, .inl (fun _ => 0))), (q2, .inl (cA, 60, .inl (fun _ => 0))), (q3, .inl (cA, 60, .inl (fun _ => 0)))] H := hP
  have hD : va_D A [(h0, .inr (1, [.int 0, .ref q1, .ref q2, .ref q3, .null, .null, .null])), (q1, .inl (cA, 60, .inl (fun _ => 0))), (q2, .inl (cA, 60, .inl (fun _ => 0))), (q3, .inl (cA, 60, .inl (fun _ => 0)))] := hD
  refine lv_aload_n hx hb dX1_init_33 rfl (lv_at hl 0 rfl) ?_
  refine lv_bipush (v := (60 : Int32)) hx hb dX1_init_34 (by decide) ?_
  refine va_newa (atype := .int) (N' := 60) (a0 := (60, .inl (fun _ => 0))) (ty := .int) (n := (60 : Int32)) hx hb (hts _ kt_55) rfl hK hP hD hS hA (fun _ => rfl) (by decide) (by decide) (by decide) (Nat.le_of_ble_eq_true rfl) (Nat.le_of_ble_eq_true rfl) dX1_init_36 (fun q4 cB H hK2 hP hD hS => ?_)
  obtain rfl := gA_eq (hK2.2 0 _ rfl).2 (hK2.2 1 _ rfl).2
  have hP : va_P D vwCl [(h0, .inr (1, [.int 0, .ref q1, .ref q2, .ref q3, .null, .null, .null])), (q1, .inl (cA, 60, .inl (fun _ => 0))), (q2, .inl (cA, 60, .inl (fun _ => 0))), (q3, .inl (cA, 60, .inl (fun _ => 0))), (q4, .inl (cA, 60, .inl (fun _ => 0)))] H := hP
  have hD : va_D A [(h0, .inr (1, [.int 0, .ref q1, .ref q2, .ref q3, .null, .null, .null])), (q1, .inl (cA, 60, .inl (fun _ => 0))), (q2, .inl (cA, 60, .inl (fun _ => 0))), (q3, .inl (cA, 60, .inl (fun _ => 0))), (q4, .inl (cA, 60, .inl (fun _ => 0)))] := hD
  refine W.widen (k := 4) (n := 240) (Nat.le_of_ble_eq_true rfl) (Nat.le_of_ble_eq_true rfl) ?_
  refine va_putF (D := D) (ci := 1) (v := .ref q4) (ty := (.array .int)) (C := RX1) (T := TX1) (N := 7) hx hb hts igX1 tyX1 tyX1_ok nmX1 hown hK hP hD hS 0 rfl rfl 4 (by decide) (hts _ kt_135) (fun _ h => h) rfl hin rfl (by decide +kernel) rfl rfl (Nat.le_of_ble_eq_true rfl) dX1_init_38 (fun H locs hP hD hS => ?_)
  have hP : va_P D vwCl [(h0, .inr (1, [.int 0, .ref q1, .ref q2, .ref q3, .ref q4, .null, .null])), (q1, .inl (cA, 60, .inl (fun _ => 0))), (q2, .inl (cA, 60, .inl (fun _ => 0))), (q3, .inl (cA, 60, .inl (fun _ => 0))), (q4, .inl (cA, 60, .inl (fun _ => 0)))] H := hP
  have hD : va_D A [(h0, .inr (1, [.int 0, .ref q1, .ref q2, .ref q3, .ref q4, .null, .null])), (q1, .inl (cA, 60, .inl (fun _ => 0))), (q2, .inl (cA, 60, .inl (fun _ => 0))), (q3, .inl (cA, 60, .inl (fun _ => 0))), (q4, .inl (cA, 60, .inl (fun _ => 0)))] := hD
  refine lv_aload_n hx hb dX1_init_41 rfl (lv_at hl 0 rfl) ?_
  refine lv_bipush (v := (60 : Int32)) hx hb dX1_init_42 (by decide) ?_
  refine va_newa (atype := .int) (N' := 60) (a0 := (60, .inl (fun _ => 0))) (ty := .int) (n := (60 : Int32)) hx hb (hts _ kt_55) rfl hK hP hD hS hA (fun _ => rfl) (by decide) (by decide) (by decide) (Nat.le_of_ble_eq_true rfl) (Nat.le_of_ble_eq_true rfl) dX1_init_44 (fun q5 cB H hK2 hP hD hS => ?_)
  obtain rfl := gA_eq (hK2.2 0 _ rfl).2 (hK2.2 1 _ rfl).2
  have hP : va_P D vwCl [(h0, .inr (1, [.int 0, .ref q1, .ref q2, .ref q3, .ref q4, .null, .null])), (q1, .inl (cA, 60, .inl (fun _ => 0))), (q2, .inl (cA, 60, .inl (fun _ => 0))), (q3, .inl (cA, 60, .inl (fun _ => 0))), (q4, .inl (cA, 60, .inl (fun _ => 0))), (q5, .inl (cA, 60, .inl (fun _ => 0)))] H := hP
  have hD : va_D A [(h0, .inr (1, [.int 0, .ref q1, .ref q2, .ref q3, .ref q4, .null, .null])), (q1, .inl (cA, 60, .inl (fun _ => 0))), (q2, .inl (cA, 60, .inl (fun _ => 0))), (q3, .inl (cA, 60, .inl (fun _ => 0))), (q4, .inl (cA, 60, .inl (fun _ => 0))), (q5, .inl (cA, 60, .inl (fun _ => 0)))] := hD
  refine W.widen (k := 5) (n := 300) (Nat.le_of_ble_eq_true rfl) (Nat.le_of_ble_eq_true rfl) ?_
  refine va_putF (D := D) (ci := 1) (v := .ref q5) (ty := (.array .int)) (C := RX1) (T := TX1) (N := 7) hx hb hts igX1 tyX1 tyX1_ok nmX1 hown hK hP hD hS 0 rfl rfl 5 (by decide) (hts _ kt_137) (fun _ h => h) rfl hin rfl (by decide +kernel) rfl rfl (Nat.le_of_ble_eq_true rfl) dX1_init_46 (fun H locs hP hD hS => ?_)
  have hP : va_P D vwCl [(h0, .inr (1, [.int 0, .ref q1, .ref q2, .ref q3, .ref q4, .ref q5, .null])), (q1, .inl (cA, 60, .inl (fun _ => 0))), (q2, .inl (cA, 60, .inl (fun _ => 0))), (q3, .inl (cA, 60, .inl (fun _ => 0))), (q4, .inl (cA, 60, .inl (fun _ => 0))), (q5, .inl (cA, 60, .inl (fun _ => 0)))] H := hP
  have hD : va_D A [(h0, .inr (1, [.int 0, .ref q1, .ref q2, .ref q3, .ref q4, .ref q5, .null])), (q1, .inl (cA, 60, .inl (fun _ => 0))), (q2, .inl (cA, 60, .inl (fun _ => 0))), (q3, .inl (cA, 60, .inl (fun _ => 0))), (q4, .inl (cA, 60, .inl (fun _ => 0))), (q5, .inl (cA, 60, .inl (fun _ => 0)))] := hD
  refine lv_aload_n hx hb dX1_init_49 rfl (lv_at hl 0 rfl) ?_
  refine lv_bipush (v := (60 : Int32)) hx hb dX1_init_50 (by decide) ?_
  refine va_newa (atype := .int) (N' := 60) (a0 := (60, .inl (fun _ => 0))) (ty := .int) (n := (60 : Int32)) hx hb (hts _ kt_55) rfl hK hP hD hS hA (fun _ => rfl) (by decide) (by decide) (by decide) (Nat.le_of_ble_eq_true rfl) (Nat.le_of_ble_eq_true rfl) dX1_init_52 (fun q6 cB H hK2 hP hD hS => ?_)
  obtain rfl := gA_eq (hK2.2 0 _ rfl).2 (hK2.2 1 _ rfl).2
  have hP : va_P D vwCl [(h0, .inr (1, [.int 0, .ref q1, .ref q2, .ref q3, .ref q4, .ref q5, .null])), (q1, .inl (cA, 60, .inl (fun _ => 0))), (q2, .inl (cA, 60, .inl (fun _ => 0))), (q3, .inl (cA, 60, .inl (fun _ => 0))), (q4, .inl (cA, 60, .inl (fun _ => 0))), (q5, .inl (cA, 60, .inl (fun _ => 0))), (q6, .inl (cA, 60, .inl (fun _ => 0)))] H := hP
  have hD : va_D A [(h0, .inr (1, [.int 0, .ref q1, .ref q2, .ref q3, .ref q4, .ref q5, .null])), (q1, .inl (cA, 60, .inl (fun _ => 0))), (q2, .inl (cA, 60, .inl (fun _ => 0))), (q3, .inl (cA, 60, .inl (fun _ => 0))), (q4, .inl (cA, 60, .inl (fun _ => 0))), (q5, .inl (cA, 60, .inl (fun _ => 0))), (q6, .inl (cA, 60, .inl (fun _ => 0)))] := hD
  refine W.widen (k := 6) (n := 360) (Nat.le_of_ble_eq_true rfl) (Nat.le_of_ble_eq_true rfl) ?_
  refine va_putF (D := D) (ci := 1) (v := .ref q6) (ty := (.array .int)) (C := RX1) (T := TX1) (N := 7) hx hb hts igX1 tyX1 tyX1_ok nmX1 hown hK hP hD hS 0 rfl rfl 6 (by decide) (hts _ kt_139) (fun _ h => h) rfl hin rfl (by decide +kernel) rfl rfl (Nat.le_of_ble_eq_true rfl) dX1_init_54 (fun H locs hP hD hS => ?_)
  have hP : va_P D vwCl [(h0, .inr (1, [.int 0, .ref q1, .ref q2, .ref q3, .ref q4, .ref q5, .ref q6])), (q1, .inl (cA, 60, .inl (fun _ => 0))), (q2, .inl (cA, 60, .inl (fun _ => 0))), (q3, .inl (cA, 60, .inl (fun _ => 0))), (q4, .inl (cA, 60, .inl (fun _ => 0))), (q5, .inl (cA, 60, .inl (fun _ => 0))), (q6, .inl (cA, 60, .inl (fun _ => 0)))] H := hP
  have hD : va_D A [(h0, .inr (1, [.int 0, .ref q1, .ref q2, .ref q3, .ref q4, .ref q5, .ref q6])), (q1, .inl (cA, 60, .inl (fun _ => 0))), (q2, .inl (cA, 60, .inl (fun _ => 0))), (q3, .inl (cA, 60, .inl (fun _ => 0))), (q4, .inl (cA, 60, .inl (fun _ => 0))), (q5, .inl (cA, 60, .inl (fun _ => 0))), (q6, .inl (cA, 60, .inl (fun _ => 0)))] := hD
  have hP9 := hP.sub (ws' := [(h0, .inr (1, [.int 0, .ref q1, .ref q2, .ref q3, .ref q4, .ref q5, .ref q6])), (q1, .inl (cA, 60, .inl (fun _ => 0))), (q2, .inl (cA, 60, .inl (fun _ => 0))), (q3, .inl (cA, 60, .inl (fun _ => 0))), (q4, .inl (cA, 60, .inl (fun _ => 0))), (q5, .inl (cA, 60, .inl (fun _ => 0))), (q6, .inl (cA, 60, .inl (fun _ => 0)))]) [0, 1, 2, 3, 4, 5, 6] rfl
  have hD9 := hD.sub (ws' := [(h0, .inr (1, [.int 0, .ref q1, .ref q2, .ref q3, .ref q4, .ref q5, .ref q6])), (q1, .inl (cA, 60, .inl (fun _ => 0))), (q2, .inl (cA, 60, .inl (fun _ => 0))), (q3, .inl (cA, 60, .inl (fun _ => 0))), (q4, .inl (cA, 60, .inl (fun _ => 0))), (q5, .inl (cA, 60, .inl (fun _ => 0))), (q6, .inl (cA, 60, .inl (fun _ => 0)))]) [0, 1, 2, 3, 4, 5, 6] (by decide) rfl
  exact W.vret hx hb hr (fun t ht hW => ⟨⟨(fun j => ([q1, q2, q3, q4, q5, q6] : List Nat).getD j 0), rfl, trivial, by rw [ht]; exact hP9, hD9⟩, hS.F ht⟩) hS.2.2 dX1_init_57
