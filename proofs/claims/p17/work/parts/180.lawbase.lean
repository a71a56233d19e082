def gY : (Nat → Prop) → State → Heap → Prop := fun _ _ _ => True
theorem gY_ok : gw_ok gY := ⟨fun _ _ _ _ _ _ => trivial, fun _ _ _ _ _ _ => trivial, fun _ _ _ _ _ _ => trivial, fun _ _ _ _ _ _ => trivial⟩
def lwA (a : Nat → Nat) (ao : Nat) : List Nat := cjA a ++ [ao]
def lwW (a : Nat → Nat) (cA : ClassId) (ao : Nat) (cL : ClassId) (v : g_S × (Nat → Int64)) : va_W := cjW a cA v.1 ++ [(ao, .inl (cL, 1, .inr (.inl v.2)))]
theorem lwW_as (a : Nat → Nat) (cA : ClassId) (ao : Nat) (cL : ClassId) (v : g_S × (Nat → Int64)) : (lwW a cA ao cL v).map Prod.fst = lwA a ao := rfl
theorem lw_le {a : Nat → Nat} {ao : Nat} : ∀ q ∈ cjA a, q ∈ lwA a ao := fun _ h => List.mem_append_left _ h
theorem lw_nd {a : Nat → Nat} {ao : Nat} (h : (lwA a ao).Nodup) : (cjA a).Nodup := (List.nodup_append.mp h).1
theorem lw_ao {a : Nat → Nat} {ao : Nat} (h : (lwA a ao).Nodup) : ∀ q ∈ [ao], q ∉ cjA a := fun q hq hc => (List.nodup_append.mp h).2.2 q hc q hq rfl
def lawA (a b : Nat → Nat) (ao : Nat) : List Nat := lwA a ao ++ mdA b
def lawW (a b : Nat → Nat) (ao : Nat) (cA cL : ClassId) (v : (g_S × (Nat → Int64)) × g_S) : va_W := lwW a cA ao cL v.1 ++ mdW b cA v.2
def law_C (D : va_G) (a b : Nat → Nat) (ao : Nat) (cA cL : ClassId) (s : State) : Prop :=
  va_K D vwCl [(cA, .int), (cL, .long)] s ∧ (lawA a b ao).Nodup ∧ (∀ q ∈ lawA a b ao, s.heap.size ≤ q) ∧ gX (rg (lawA a b ao) s.heap.size) s s.heap
section LAWB
variable {a b : Nat → Nat} {ao : Nat}
theorem law_le1 : ∀ q ∈ lwA a ao, q ∈ lawA a b ao := fun _ h => List.mem_append_left _ h
theorem law_le2 : ∀ q ∈ mdA b, q ∈ lawA a b ao := fun _ h => List.mem_append_right _ h
theorem law_n1 (h : (lawA a b ao).Nodup) : (lwA a ao).Nodup := (List.nodup_append.mp h).1
theorem law_n2 (h : (lawA a b ao).Nodup) : (mdA b).Nodup := (List.nodup_append.mp h).2.1
theorem law_d1 (h : (lawA a b ao).Nodup) : ∀ q ∈ mdA b, q ∉ lwA a ao := fun q hq hc => (List.nodup_append.mp h).2.2 q hc q hq rfl
theorem law_d2 (h : (lawA a b ao).Nodup) : ∀ q ∈ lwA a ao, q ∉ mdA b := fun q hq hc => (List.nodup_append.mp h).2.2 q hq q hc rfl
theorem law_ge {s : State} (hge : ∀ q ∈ lawA a b ao, s.heap.size ≤ q) {q : Nat} (h : rg (lawA a b ao) s.heap.size q) : s.heap.size ≤ q := h.elim (hge q) id
theorem law_nb {s : State} {sb : Nat} (hge : ∀ q ∈ lawA a b ao, s.heap.size ≤ q) (h : sb < s.heap.size) : ¬ rg (lawA a b ao) s.heap.size sb := fun z => absurd (law_ge hge z) (Nat.not_le.mpr h)
end LAWB
def lawN : Nat := 3584
def lawMc : Nat := 1079
def lawMs : Nat := 11886
theorem law_ix {k i L : Nat} {x4 : Int32} (ex4 : x4 = nI i) (h : i + k < L) (hL : L < 2 ^ 31) : vp_in (x4 + Int32.ofNat k) L := by
  rw [ex4, show nI i + Int32.ofNat k = nI (i + k) from nI_add i k]; exact vp_in_nI h hL
theorem law_i0 {i L : Nat} {x4 : Int32} (ex4 : x4 = nI i) (h : i < L) (hL : L < 2 ^ 31) : vp_in x4 L := by rw [ex4]; exact vp_in_nI h hL
theorem law_c7 : ∀ L, L < 7 → ∀ i, i < 14 → Int32.ofNat L - 7 < nI i := by decide +kernel
theorem law_cn {i L : Nat} {x4 : Int32} (hL : L ≤ lawN) (hi : i ≤ L + 7) (ex4 : x4 = nI i) (c : ¬ Int32.ofNat L - 7 < x4) : i + 7 ≤ L := by
  unfold lawN at hL
  rcases Nat.lt_or_ge L 7 with h | h
  · exact absurd (by rw [ex4]; exact law_c7 L h i (by omega)) c
  · have e : Int32.ofNat L - 7 = nI (L - 7) := by
      have h1 : nI (L - 7) + nI 7 = nI L := by rw [nI_add]; congr 1; omega
      have h2 : (7 : Int32) = nI 7 := by decide +kernel
      rw [show Int32.ofNat L = nI L from rfl, ← h1, h2, Int32.add_sub_cancel]
    rw [e, ex4] at c
    have h3 := mt (nI_ltI (a := L - 7) (b := i) (by omega) (by omega)).mpr c
    omega
theorem gT_vS {own : String} {idx : Nat} {y : MethodName} {c : Cond} (h1 : Cond.methodLink own idx y ∈ gT) (h2 : Cond.static y ∈ gT) (h3 : Cond.initialized y.cls ∈ gT) (h5 : c ∈ gT) : GoodIn gT (va_wsS own idx y (c :: gT)) := fun w hw => by
  refine gT_g ?_
  unfold va_wsS at hw
  rcases List.mem_append.mp hw with q | q
  · simp only [List.mem_cons, List.not_mem_nil, or_false] at q
    rcases q with rfl | rfl | rfl
    · exact h1
    · exact h2
    · exact h3
  · exact gT_c h5 q
theorem lwv {f : Nat → Int64} {x y : Int32} {k : Nat} (hk : k = 0) (h : x = y) : lg_cmp ((if k = 0 then vp_updL f 0 (Int32.toInt64 x) else f) (0 : Int32).toNatClampNeg) (Int32.toInt64 y) = 0 := by
  rw [if_pos hk, h, show (vp_updL f 0 (Int32.toInt64 y)) (0 : Int32).toNatClampNeg = Int32.toInt64 y from rfl]
  unfold lg_cmp
  rw [if_neg Int64.lt_irrefl, if_pos rfl]
