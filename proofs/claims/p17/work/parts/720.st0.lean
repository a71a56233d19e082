theorem gA_of {args : Array Value} {s : State} (h : (Cond.arrayClass .int).before args s = true) : ∃ cA : ClassId, ArrOfT s cA .int ∧ va_RA s cA .int := by
  obtain ⟨cA, kA, comp, f1, f2, f3⟩ := Cond.arrayClass_spec h
  exact ⟨cA, fun n z => ⟨(fun k h => by cases h), kA, f2, comp, f3⟩, f1⟩
theorem gw_N {A : Nat → Prop} {ws : va_W} (h : va_D A ws) : (ws.map Prod.fst).Nodup := by
  refine List.pairwise_iff_getElem.mpr (fun i j hi hj hij e => ?_)
  have hi2 : i < ws.length := by simpa using hi
  have hj2 : j < ws.length := by simpa using hj
  have e2 : (ws[i]).1 = (ws[j]).1 := by simpa using e
  exact absurd (h.1 i j _ _ (List.getElem?_eq_getElem hi2) (List.getElem?_eq_getElem hj2) e2) (Nat.ne_of_lt hij)
theorem gw_ge {A : Nat → Prop} {ws : va_W} (h : va_D A ws) : ∀ q ∈ ws.map Prod.fst, A q := by
  intro q hq
  obtain ⟨x, hx, rfl⟩ := List.mem_map.mp hq
  obtain ⟨k, hk⟩ := List.getElem?_of_mem hx
  exact h.2 k x hk
theorem gB_t : ∀ w ∈ gB, w ∈ lw_tbl := by decide +kernel
theorem gNc_t : ∀ q ∈ gNc, Cond.not (.castable q.1 q.2) ∈ flatC (Jvm.Cond.and given_1 narrow_1) := by decide +kernel
theorem gstr {own tx : String} {k : Nat} {args : Array Value} {s : State} {cur : ClassId} (hc : s.vm.findClass own = some cur) (h : (Cond.stringRef own k tx).before args s = true) : ∃ q, vk_R own k tx q s := by
  obtain ⟨_, _, _, a, -, -, -, -, -, hev⟩ := Cond.stringRef_spec hc h
  exact ⟨a, vk_R.of h hev⟩
set_option maxRecDepth 20000 in
theorem gX_0 {args : Array Value} {s : State} {A : Nat → Prop} {cur : ClassId} (hts0 : ∀ w ∈ lw_tbl, w.before args s = true) (hgv : (Jvm.Cond.and given_1 narrow_1).before args s = true) (hcl : s.vm.findClass RX4 = some cur) (hA : ∀ a : Nat, a < s.heap.size → ¬ A a) : gX A s s.heap := by
  have hs := flat_of_before _ hgv
  refine ⟨fun w hw => va_Nw.of (gNw_t (gB_k w hw)) (hts0 w (gB_t w hw)), fun q hq => va_Nc.of (hs _ (gNc_t q hq)), gstr hcl (hts0 _ (List.mem_append_right _ (List.mem_of_getElem? (i := 227) (by decide +kernel)))), gstr hcl (hts0 _ (List.mem_append_right _ (List.mem_of_getElem? (i := 266) (by decide +kernel)))), gstr hcl (hts0 _ (List.mem_append_right _ (List.mem_of_getElem? (i := 455) (by decide +kernel)))), gstr hcl (hts0 _ (List.mem_append_right _ (List.mem_of_getElem? (i := 302) (by decide +kernel)))), gstr hcl (hts0 _ (List.mem_append_right _ (List.mem_of_getElem? (i := 526) (by decide +kernel)))), ?_, ?_⟩
  · exact vx_Zqof (hts0 _ (by decide +kernel)) (hts0 _ (by decide +kernel)) (hs _ (by decide +kernel)) hA
  · exact vx_Zqof (hts0 _ (by decide +kernel)) (hts0 _ (by decide +kernel)) (hs _ (by decide +kernel)) hA
