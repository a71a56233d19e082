def fillG (n : Nat) (x : Int32) (f : Nat → Int32) : Nat → Int32 := fun j => if j < n then x else f j
theorem fillG_z (x : Int32) (f : Nat → Int32) : fillG 0 x f = f := by
  funext j
  unfold fillG
  rw [if_neg (Nat.not_lt_zero j)]
theorem fillG_s (i : Nat) (x : Int32) (f : Nat → Int32) : upd (fillG i x f) i x = fillG (i + 1) x f := by
  funext j
  unfold upd fillG
  by_cases h : j = i
  · rw [if_pos h, if_pos (by omega)]
  · rw [if_neg h]
    by_cases h2 : j < i
    · rw [if_pos h2, if_pos (by omega)]
    · rw [if_neg h2, if_neg (by omega)]
abbrev gi_pre (D : va_G) (cA : ClassId) (w : va_W) (sz : Nat) (U : State) : Prop := U.heap.size = sz ∧ va_P D vwCl w U.heap ∧ va_K D vwCl [(cA, .int)] U ∧ va_D (fun _ => True) w
theorem gi_blind {D : va_G} {cA : ClassId} {w : va_W} {sz : Nat} {av : List Value} : FrameBlind (va_Pc av (gi_pre D cA w sz)) := by
  intro a U g mk h
  obtain ⟨h0, h1, h2, h3, h4⟩ := h
  exact ⟨h0, h1, h2, va_K.moved (u := U) (U := U.calling g mk a) (Vm.Alike.refl U.vm) h3, h4⟩
theorem gA_eq {U : State} {cA cB : ClassId} (h1 : va_RA U cA .int) (h2 : va_RA U cB .int) : cA = cB := by
  have h1 : U.vm.findClass ("[" ++ FieldType.int.toString) = some cA := h1
  have h2 : U.vm.findClass ("[" ++ FieldType.int.toString) = some cB := h2
  exact Option.some.inj (h1.symm.trans h2)
def rmJ7_fill : Room := { frames := 0, cells := 0, slots := 0, locals := 0 }
set_option maxHeartbeats 4000000 in
theorem i_fill_lp {p : Program} {l : Launch} {e : Env} {s : State} {m : MethodId} {args : Array Value} {below : List Frame} {meth : Method} {c : Code} {D : va_G} {cA : ClassId} {h0 N : Nat} {f : Nat → Int32} {x : Int32} {A : Nat → Prop} {Q : State → Prop} (hN : N < 2 ^ 31) (hx : p.tables.exec = Jvm.exec) (hb : c.code = cJ7_fill) (hK : va_K D vwCl [(cA, .int)] s)
    (kk : ∀ (H : Heap) (locs : List Loc) (ls : Array Slot), va_P D vwCl [(h0, .inl (cA, N, .inl (fillG N x f)))] H → va_D A [(h0, .inl (cA, N, .inl (fillG N x f)))] → va_S A s.heap H locs → W p l e rmJ7_fill s m args below meth c H locs 0 0 Q (F0 m 20 ls [])) : ∀ (n i : Nat) (H : Heap) (locs : List Loc) (ls : Array Slot), i + n = N → va_P D vwCl [(h0, .inl (cA, N, .inl (fillG i x f)))] H → va_D A [(h0, .inl (cA, N, .inl (fillG i x f)))] → va_S A s.heap H locs → lv_has ls 4 [(2, .int (nI i)), (3, .int (nI N)), (0, .ref h0), (1, .int x)] → W p l e rmJ7_fill s m args below meth c H locs 0 0 Q (F0 m 5 ls []) := by
  intro n
  induction n with
  | zero =>
    intro i H locs ls hi hP hD hS hl
    obtain rfl : i = N := by omega
    refine lv_iload_n hx hb dJ7_fill_5 rfl (lv_at hl 0 rfl) ?_
    refine lv_iload_n hx hb dJ7_fill_6 rfl (lv_at hl 1 rfl) ?_
    refine lv_icmp_ge (tgt := 20) hx hb dJ7_fill_7 (by decide) (fun c1 => ?_) (fun c1 => absurd ((nI_leI hN hN).mpr (Nat.le_refl _)) c1)
    exact kk H locs ls hP hD hS
  | succ n ih =>
    intro i H locs ls hi hP hD hS hl
    refine lv_iload_n hx hb dJ7_fill_5 rfl (lv_at hl 0 rfl) ?_
    refine lv_iload_n hx hb dJ7_fill_6 rfl (lv_at hl 1 rfl) ?_
    refine lv_icmp_ge (tgt := 20) hx hb dJ7_fill_7 (by decide) (fun c1 => absurd ((nI_leI hN (by omega)).mp c1) (by omega)) (fun c1 => ?_)
    refine lv_aload_n hx hb dJ7_fill_10 rfl (lv_at hl 2 rfl) ?_
    refine lv_iload_n hx hb dJ7_fill_11 rfl (lv_at hl 0 rfl) ?_
    refine lv_iload_n hx hb dJ7_fill_12 rfl (lv_at hl 3 rfl) ?_
    refine va_iast hx hb hK hP hD hS 0 0 rfl rfl (vp_in_nI (by omega) hN) dJ7_fill_13 (fun H locs hP hD hS => ?_)
    have hf : upd (fillG i x f) (nI i).toNatClampNeg x = fillG (i + 1) x f := by rw [nI_clamp (by omega)]; exact fillG_s i x f
    have hP : va_P D vwCl [(h0, .inl (cA, N, .inl (upd (fillG i x f) (nI i).toNatClampNeg x)))] H := hP
    have hD : va_D A [(h0, .inl (cA, N, .inl (upd (fillG i x f) (nI i).toNatClampNeg x)))] := hD
    rw [hf] at hP hD
    refine lv_iinc (v := nI (i + 1)) (lv' := [(2, .int (nI (i + 1))), (3, .int (nI N)), (0, .ref h0), (1, .int x)]) hx hb dJ7_fill_14 hl (k := 0) rfl (nI_add i 1) (by decide) rfl (fun ls hl => ?_)
    refine lv_goto (tgt := 5) hx hb dJ7_fill_17 (by decide) ?_
    exact ih (i + 1) H locs ls (by omega) hP hD hS hl
set_option maxHeartbeats 4000000 in
theorem i_fill {l : Launch} {D : va_G} {cA : ClassId} {h0 n sz : Nat} {f : Nat → Int32} {x : Int32} (hn : n < 2 ^ 31) : Met l yJ7_fill wxJ7_fill rmJ7_fill (va_Pc [.ref h0, .int x] (gi_pre D cA [(h0, .inl (cA, n, .inl f))] sz)) (va_Qv (fun _ : Nat → Nat => True) (fun _ t => va_P D vwCl [(h0, .inl (cA, n, .inl (fillG n x f)))] t.heap ∧ va_D (va_A [(h0, .inl (cA, n, .inl f))] sz) [(h0, .inl (cA, n, .inl (fillG n x f)))]) (va_A [(h0, .inl (cA, n, .inl f))] sz)) 0 0 (va_A [(h0, .inl (cA, n, .inl f))] sz) := by
  refine Met.ofW (cc := cJ7_fill) (maxL := 4) (ret := none) (by decide) rfl ?_
  intro p e s m args below meth c s₁ B hml hv
  obtain ⟨rfl, hsz, hP, hK, hD0⟩ := hv
  have hx := B.exec
  have hb := B.bytes
  have hr := B.returns
  have hlk := B.notSynchronized
  subst hsz
  have hD := hD0.self (sz := s.heap.size)
  generalize hAe : va_A [(h0, .inl (cA, n, .inl f))] s.heap.size = A at hD ⊢
  have hS : va_S A s.heap s.heap [] := va_S.rf
  have hl := lv_entry ([.ref h0, .int x]) (n := 4) (Nat.le_of_ble_eq_true rfl)
  rw [lg_entry_eq]
  generalize (lg_sl ([.ref h0, .int x]) ++ List.replicate (4 - (lg_sl ([.ref h0, .int x])).length) Slot.unset).toArray = ls at hl ⊢
  have hl : lv_has ls 4 [(0, .ref h0), (1, .int x)] := hl
  refine lv_iconst (v := (0 : Int32)) hx hb dJ7_fill_0 (by decide) ?_
  refine lv_istore_n (lv' := [(2, .int (0 : Int32)), (0, .ref h0), (1, .int x)]) hx hb dJ7_fill_1 rfl hl (by decide) rfl (fun ls hl => ?_)
  refine lv_aload_n hx hb dJ7_fill_2 rfl (lv_at hl 1 rfl) ?_
  refine va_alen (v := nI n) hx hb hK hP 0 0 rfl rfl rfl dJ7_fill_3 ?_
  refine lv_istore_n (lv' := [(3, .int (nI n)), (2, .int (0 : Int32)), (0, .ref h0), (1, .int x)]) hx hb dJ7_fill_4 rfl hl (by decide) rfl (fun ls hl => ?_)
  have hz0 : fillG 0 x f = f := fillG_z x f
  refine i_fill_lp (f := f) (x := x) hn hx hb hK ?_ n 0 s.heap [] ls (Nat.zero_add n) (by rw [hz0]; exact hP) (by rw [hz0]; exact hD) hS (lv_sub hl [1, 0, 2, 3] rfl)
  intro H locs ls hP hD hS
  exact W.vret hx hb hr (fun t ht hW => ⟨⟨(fun _ => 0), rfl, trivial, by rw [ht]; exact hP, hD⟩, hS.F ht⟩) hS.2.2 dJ7_fill_20
