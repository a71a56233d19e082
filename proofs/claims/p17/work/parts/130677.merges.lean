section MGK
variable {g : Nat → Int32} {u w : g_S}
theorem RA_merge {u' w' : g_S} {e c : Nat} {N : Nat} (R : RA u w) (S : RS u) (hN : (u.1 0).toInt = N) (i0 : u'.1 0 = u.1 0) (i1 : u'.1 1 = u.1 1) (j0 : w'.1 1 = w.1 1) (j1 : w'.1 2 = w.1 2)
    (ha : ∀ k, (k < 13 ∨ k = 16 ∨ k = 18 ∨ 20 ≤ k) → u'.2 k = u.2 k) (hb : ∀ k, (k < 12 ∨ k = 14 ∨ 18 ≤ k) → w'.2 k = w.2 k)
    (c13 : ∀ d, d < N → u'.2 13 d = w'.2 12 d) (c14 : ∀ d, d < N → u'.2 14 d = w'.2 13 d) (c15 : ∀ d, d < N → u'.2 15 d = w'.2 15 d)
    (c17 : ∀ d : Nat, u'.2 17 d = if d = e then 3 else u.2 17 d) (m16 : ∀ d : Nat, w'.2 16 d = if d = e then 3 else w.2 16 d) (m17 : ∀ d : Nat, ¬ d = e → w'.2 17 d = w.2 17 d) : RA u' w' := by
  refine ⟨by rw [i0, j0]; exact R.1, by rw [i1, j1]; exact R.2.1, fun k hk => ?_, fun d hd => ?_, fun d hd => ?_⟩
  · rw [ha k (by omega), hb k (by omega)]; exact R.2.2.1 k hk
  · rw [i0] at hd
    have hdN : d < N := by omega
    obtain ⟨q7, q8, q9, q10, q12, -, -, -, q16⟩ := R.2.2.2.1 d hd
    refine ⟨?_, ?_, ?_, ?_, ?_, c13 d hdN, c14 d hdN, c15 d hdN, ?_⟩
    · rw [ha 7 (by omega), hb 7 (by omega)]; exact q7
    · rw [ha 8 (by omega), hb 8 (by omega)]; exact q8
    · rw [ha 9 (by omega), hb 9 (by omega)]; exact q9
    · rw [ha 10 (by omega), hb 10 (by omega)]; exact q10
    · rw [ha 12 (by omega), hb 11 (by omega)]; exact q12
    · rw [ha 16 (by omega), hb 14 (by omega)]; exact q16
  · rw [i1] at hd
    rw [c17 d, m16 d, ha 20 (by omega), ha 21 (by omega), ha 22 (by omega), hb 18 (by omega), hb 19 (by omega)]
    by_cases q : d = e
    · rw [if_pos q, if_pos q]
      exact ⟨rfl, fun y => absurd rfl y⟩
    · rw [if_neg q, if_neg q, m17 d q]
      exact R.2.2.2.2 d hd
theorem RS_merge {u' : g_S} {e c f t N : Nat} (S : RS u) (I : IC g u) (hN : (u.1 0).toInt = N) (hf : f < N) (hc : c < N) (het : ¬ e = t) (he : (e : Int) < (u.1 1).toInt) (ht : (t : Int) < (u.1 1).toInt) (h3e : ¬ u.2 17 e = 3) (h19 : u.2 19 e = nI f) (hct : u.2 13 c = nI t) (ht60 : t < 60) (he60 : e < 60) (hN2 : N ≤ 120)
    (i0 : u'.1 0 = u.1 0) (i1 : u'.1 1 = u.1 1) (ha : ∀ k, (k < 13 ∨ k = 18) → u'.2 k = u.2 k)
    (c13 : ∀ d, u'.2 13 d = if d < N ∧ u.2 13 d = nI e then nI t else u.2 13 d) (c14 : ∀ d, u'.2 14 d = if d = f then nI c else u.2 14 d)
    (c17 : ∀ d : Nat, u'.2 17 d = if d = e then 3 else u.2 17 d) (c19 : ∀ d : Nat, ¬ d = e → u'.2 19 d = u.2 19 d) : RS u' := by
  obtain ⟨s1, s2, s3, s4⟩ := S
  have nt : (nI t).toInt = t := nI_toInt (by omega)
  have ne : (nI e).toInt = e := nI_toInt (by omega)
  have nc : (nI c).toInt = c := nI_toInt (by omega)
  have nf : (nI f).toInt = f := nI_toInt (by omega)
  have nfc : (nI f).toNatClampNeg = f := n31 (by omega)
  have ncc : (nI c).toNatClampNeg = c := n31 (by omega)
  have hnte : ¬ nI t = nI e := fun q => by have : (nI t).toInt = (nI e).toInt := by rw [q]
                                           omega
  have c13l : ∀ d, d < N → u'.2 13 d = if u.2 13 d = nI e then nI t else u.2 13 d := fun d hd => by
    rw [c13 d]
    by_cases q : u.2 13 d = nI e
    · rw [if_pos ⟨hd, q⟩, if_pos q]
    · rw [if_neg (fun y => q y.2), if_neg q]
  obtain ⟨g1, g2, g3, g4, g5, g6⟩ := s4 e he h3e
  rw [h19, nfc] at g3 g4
  have hfe : u.2 13 f = nI e := Int32.toInt_inj.mp (by omega)
  refine ⟨by rw [ha 6 (by omega)]; exact s1, fun d hd => ?_, fun d hd hr => ?_, fun x hx h3 => ?_⟩
  · rw [i0] at hd ⊢
    rw [i1, ha 12 (by omega), ha 9 (by omega), c13l d (by omega), c14 d]
    obtain ⟨a1, a2, a3, a4, a5⟩ := s2 d hd
    refine ⟨a1, a2, a3, ?_, ?_⟩
    · by_cases q : u.2 13 d = nI e
      · rw [if_pos q]; omega
      · rw [if_neg q]; exact a4
    · by_cases q : d = f
      · rw [if_pos q]; omega
      · rw [if_neg q]; exact a5
  · rw [i0] at hd
    rw [c14 d] at hr ⊢
    by_cases q : d = f
    · rw [if_pos q, ncc, c13l c hc, if_neg (by rw [hct]; exact hnte), hct, q, c13l f hf, if_pos hfe]
    · rw [if_neg q] at hr ⊢
      have hcl : ((u.2 14 d).toNatClampNeg : Int) = (u.2 14 d).toInt := cl_I hr
      have := (s2 d hd).2.2.2.2
      rw [c13l _ (by omega), c13l d (by omega), s3 d hd hr]
  · rw [i1] at hx
    rw [c17 x] at h3
    by_cases q : x = e
    · rw [if_pos q] at h3; exact absurd rfl h3
    · rw [if_neg q] at h3
      obtain ⟨a1, a2, a3, a4, a5, a6⟩ := s4 x hx h3
      have hcl : ((u.2 19 x).toNatClampNeg : Int) = (u.2 19 x).toInt := cl_I a1
      have hxf : ¬ (u.2 19 x).toNatClampNeg = f := fun y => by rw [y] at a3; omega
      rw [c19 x q, ha 18 (by omega), ha 8 (by omega), i0, c13l _ (by omega), c14, if_neg hxf, if_neg (fun y => by rw [y] at a3; omega)]
      refine ⟨a1, a2, a3, a4, a5, fun d hd b1 b2 => ?_⟩
      rw [c14 d] at b2
      rw [c13l d (by omega)] at b1
      by_cases y : d = f
      · rw [if_pos y] at b2; omega
      · rw [if_neg y] at b2
        by_cases y2 : u.2 13 d = nI e
        · have := g6 d hd (by rw [y2]; exact ne) b2
          rw [h19, nf] at this
          omega
        · rw [if_neg y2] at b1
          exact a6 d hd b1 b2
end MGK
