theorem gl_r {α β : Type} {x : α} {k : α → Option β} : gl x k = k x := rfl
theorem bi_s {α β : Type} {o : Option α} {v : α} {k : α → Option β} (h : o = some v) : o.bind k = k v := by rw [h]; rfl
theorem ck_nI {β : Type} {i n : Nat} {x : Option β} (h : i < n) (hn : n < 2 ^ 31) : ck (nI i) n x = x := ck_in (vp_in_nI h hn)
theorem rdA (u : g_S) (k : Nat) (i v : Int32) (k' j : Nat) : (g_sA u k i v).2 k' j = if k' = k ∧ j = i.toNatClampNeg then v else u.2 k' j := by
  show (va_up u.2 k (upd (u.2 k) i.toNatClampNeg v)) k' j = _
  unfold va_up upd
  by_cases h : k' = k
  · by_cases h2 : j = i.toNatClampNeg
    · rw [if_pos h, if_pos h2, if_pos ⟨h, h2⟩]
    · rw [if_pos h, if_neg h2, if_neg (fun q => h2 q.2), h]
  · rw [if_neg h, if_neg (fun q => h q.1)]
theorem rdA_i (u : g_S) (k : Nat) (i v : Int32) (j : Nat) : (g_sA u k i v).1 j = u.1 j := rfl
theorem rdI (u : g_S) (k : Nat) (v : Int32) (j : Nat) : (g_sI u k v).1 j = if j = k then v else u.1 j := rfl
theorem rdI_a (u : g_S) (k : Nat) (v : Int32) (k' j : Nat) : (g_sI u k v).2 k' j = u.2 k' j := rfl
theorem rdN (u : g_S) (k i : Nat) (v : Int32) (k' j : Nat) (hi : i < 2 ^ 31) : (g_sA u k (nI i) v).2 k' j = if k' = k ∧ j = i then v else u.2 k' j := by rw [rdA, nI_clamp hi]
theorem rdN_ne (u : g_S) (k i : Nat) (v : Int32) (k' j : Nat) (h : k' ≠ k) : (g_sA u k (nI i) v).2 k' j = u.2 k' j := by rw [rdA, if_neg (fun q => h q.1)]
theorem nI_rg {x : Int32} {m : Nat} (h0 : ¬ x < 0) (h1 : x < nI m) (hm : m < 2 ^ 31) : ∃ i, i < m ∧ x = nI i := by
  obtain ⟨i, hi, rfl⟩ := nI_of h0
  exact ⟨i, (nI_ltI hi hm).mp h1, rfl⟩
theorem nI_rgn {x : Int32} {m : Nat} (h0 : ¬ x < 0) (h1 : ¬ nI m ≤ x) (hm : m < 2 ^ 31) : ∃ i, i < m ∧ x = nI i := by
  obtain ⟨i, hi, rfl⟩ := nI_of h0
  exact ⟨i, Nat.lt_of_not_le (fun q => h1 ((nI_leI hm hi).mpr q)), rfl⟩
theorem nI_m1 {i : Nat} (h : i < 2 ^ 31) : ¬ nI i = -1 := fun q => absurd (show nI i < 0 by rw [q]; decide) (nI_pos h)
def okk {α : Type} (o : Option α) (Q : α → Prop) : Prop := ∃ r, o = some r ∧ Q r
theorem okk_some {α : Type} {r : α} {Q : α → Prop} (h : Q r) : okk (some r) Q := ⟨r, rfl, h⟩
theorem okk_ck {α : Type} {i : Int32} {n : Nat} {x : Option α} {Q : α → Prop} (h : vp_in i n) (k : okk x Q) : okk (ck i n x) Q := by rw [ck_in h]; exact k
theorem okk_gl {α β : Type} {x : α} {k : α → Option β} {Q : β → Prop} (h : ∀ y, y = x → okk (k y) Q) : okk (gl x k) Q := h x rfl
theorem okk_if {α : Type} {c : Prop} [Decidable c] {a b : Option α} {Q : α → Prop} (h1 : c → okk a Q) (h2 : ¬ c → okk b Q) : okk (if c then a else b) Q := by
  by_cases h : c
  · rw [if_pos h]; exact h1 h
  · rw [if_neg h]; exact h2 h
theorem okk_bi {α β : Type} {o : Option α} {k : α → Option β} {P : α → Prop} {Q : β → Prop} (h : okk o P) (hk : ∀ v, P v → okk (k v) Q) : okk (o.bind k) Q := by
  obtain ⟨v, hv, hp⟩ := h
  rw [bi_s hv]; exact hk v hp
theorem okk_mono {α : Type} {o : Option α} {P Q : α → Prop} (h : okk o P) (hi : ∀ r, P r → Q r) : okk o Q := by
  obtain ⟨v, hv, hp⟩ := h
  exact ⟨v, hv, hi v hp⟩
theorem vp_I {x : Int32} {n : Nat} (h0 : 0 ≤ x.toInt) (h1 : x.toInt < n) : vp_in x n := by
  rintro (h | h)
  · have := Int32.lt_iff_toInt_lt.mp h
    rw [show (0 : Int32).toInt = 0 from rfl] at this; omega
  · rw [← Int32.toNat_toInt] at h; omega
theorem cl_I {x : Int32} (h0 : 0 ≤ x.toInt) : (x.toNatClampNeg : Int) = x.toInt := by
  rw [← Int32.toNat_toInt]; omega
theorem oi_add {a b : Int32} {x y : Int} (ha : a.toInt = x) (hb : b.toInt = y) (h1 : -2147483648 ≤ x + y) (h2 : x + y ≤ 2147483647) : (a + b).toInt = x + y := by
  rw [Int32.toInt_add, ha, hb]; exact Int.bmod_eq_of_le_mul_two (by omega) (by omega)
theorem oi_sub {a b : Int32} {x y : Int} (ha : a.toInt = x) (hb : b.toInt = y) (h1 : -2147483648 ≤ x - y) (h2 : x - y ≤ 2147483647) : (a - b).toInt = x - y := by
  rw [Int32.toInt_sub, ha, hb]; exact Int.bmod_eq_of_le_mul_two (by omega) (by omega)
theorem oi_mul {a b : Int32} {x y : Int} (ha : a.toInt = x) (hb : b.toInt = y) (h1 : -2147483648 ≤ x * y) (h2 : x * y ≤ 2147483647) : (a * b).toInt = x * y := by
  rw [Int32.toInt_mul, ha, hb]; exact Int.bmod_eq_of_le_mul_two (by omega) (by omega)
theorem oi_ite {c : Prop} [Decidable c] {a b : Int32} : (if c then a else b).toInt = a.toInt ∨ (if c then a else b).toInt = b.toInt := by
  by_cases h : c
  · rw [if_pos h]; exact Or.inl rfl
  · rw [if_neg h]; exact Or.inr rfl
theorem oi_lo (x : Int32) : -2147483648 ≤ x.toInt := Int32.le_toInt x
theorem oi_hi (x : Int32) : x.toInt ≤ 2147483647 := Int.le_of_lt_add_one (Int32.toInt_lt x)
theorem okk_t {α : Type} {c : Prop} [Decidable c] {a b : Option α} {Q : α → Prop} (h : c) (k : okk a Q) : okk (if c then a else b) Q := by rw [if_pos h]; exact k
theorem okk_f {α : Type} {c : Prop} [Decidable c] {a b : Option α} {Q : α → Prop} (h : ¬ c) (k : okk b Q) : okk (if c then a else b) Q := by rw [if_neg h]; exact k
theorem okk_bs {α β : Type} {o : Option α} {v : α} {k : α → Option β} {Q : β → Prop} (h : o = some v) (hk : okk (k v) Q) : okk (o.bind k) Q := by rw [bi_s h]; exact hk
theorem okk_le {α : Type} {x y : Int32} {a b : Option α} {Q : α → Prop} (h1 : x ≤ y → x.toInt ≤ y.toInt → okk a Q) (h2 : ¬ x ≤ y → y.toInt < x.toInt → okk b Q) : okk (if x ≤ y then a else b) Q :=
  okk_if (fun h => h1 h (Int32.le_iff_toInt_le.mp h)) (fun h => h2 h (Int.lt_of_not_ge (fun q => h (Int32.le_iff_toInt_le.mpr q))))
theorem okk_lt {α : Type} {x y : Int32} {a b : Option α} {Q : α → Prop} (h1 : x < y → x.toInt < y.toInt → okk a Q) (h2 : ¬ x < y → y.toInt ≤ x.toInt → okk b Q) : okk (if x < y then a else b) Q :=
  okk_if (fun h => h1 h (Int32.lt_iff_toInt_lt.mp h)) (fun h => h2 h (Int.le_of_not_gt (fun q => h (Int32.lt_iff_toInt_lt.mpr q))))
theorem okk_eq {α : Type} {x y : Int32} {a b : Option α} {Q : α → Prop} (h1 : x = y → x.toInt = y.toInt → okk a Q) (h2 : ¬ x = y → ¬ x.toInt = y.toInt → okk b Q) : okk (if x = y then a else b) Q :=
  okk_if (fun h => h1 h (by rw [h])) (fun h => h2 h (fun q => h (Int32.toInt_inj.mp q)))
theorem okk_ne {α : Type} {x y : Int32} {a b : Option α} {Q : α → Prop} (h1 : ¬ x = y → ¬ x.toInt = y.toInt → okk a Q) (h2 : x = y → x.toInt = y.toInt → okk b Q) : okk (if ¬ x = y then a else b) Q :=
  okk_if (fun h => h1 h (fun q => h (Int32.toInt_inj.mp q))) (fun h => h2 (Classical.byContradiction h) (by rw [Classical.byContradiction h]))
