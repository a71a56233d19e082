section HN1
variable {g : Nat → Int32} {u : g_S}
theorem okk_fm_firstOf_2 (I : IM g u) : ∀ (n : Nat) (x1 x2 : Int32), 0 ≤ x2.toInt → x2.toInt ≤ 120 → 121 ≤ (n : Int) + x2.toInt → okk (fm_firstOf_2 u n x1 x2) (fun r => -1 ≤ r.toInt ∧ r.toInt < (u.1 1).toInt ∧ (0 ≤ r.toInt → u.2 12 r.toNatClampNeg = x1 ∧ (u.2 13 r.toNatClampNeg).toInt < 0) ∧ (r.toInt < 0 → ∀ c : Nat, x2.toInt ≤ (c : Int) → (c : Int) < (u.1 1).toInt → ¬ (u.2 12 c = x1 ∧ (u.2 13 c).toInt < 0))) := by
  have z0 : (0 : Int32).toInt = 0 := by decide
  have zm : (-1 : Int32).toInt = -1 := by decide
  have z := IM_s I
  intro n
  induction n with
  | zero =>
    intro x1 x2 h0 h1 hf
    exfalso; omega
  | succ n ih =>
    intro x1 x2 h0 h1 hf
    rw [fm_firstOf_2_s]
    refine okk_le (fun c cI => ?_) (fun c cI => ?_)
    · exact okk_some ⟨by omega, by omega, fun q => absurd q (by omega), fun _ c h2 h3 => absurd h3 (by omega)⟩
    · have t : (x2 + (1 : Int32)).toInt = x2.toInt + 1 := oi_add rfl (by decide) (by omega) (by omega)
      have hcl : (x2.toNatClampNeg : Int) = x2.toInt := cl_I (by omega)
      have hrec : ¬ (u.2 12 x2.toNatClampNeg = x1 ∧ (u.2 13 x2.toNatClampNeg).toInt < 0) → okk (fm_firstOf_2 u n x1 (x2 + (1 : Int32))) (fun r => -1 ≤ r.toInt ∧ r.toInt < (u.1 1).toInt ∧ (0 ≤ r.toInt → u.2 12 r.toNatClampNeg = x1 ∧ (u.2 13 r.toNatClampNeg).toInt < 0) ∧ (r.toInt < 0 → ∀ c : Nat, x2.toInt ≤ (c : Int) → (c : Int) < (u.1 1).toInt → ¬ (u.2 12 c = x1 ∧ (u.2 13 c).toInt < 0))) := by
        intro hne
        refine okk_mono (ih x1 (x2 + (1 : Int32)) (by omega) (by omega) (by omega)) (fun r hr => ?_)
        obtain ⟨a1, a2, a3, a4⟩ := hr
        refine ⟨a1, a2, a3, fun q c h2 h3 => ?_⟩
        by_cases e : c = x2.toNatClampNeg
        · rw [e]; exact hne
        · exact a4 q c (by omega) h3
      refine okk_ck (vp_I (by omega) (by omega)) ?_
      refine okk_ne (fun d dI => ?_) (fun d dI => ?_)
      · exact hrec (fun q => d q.1)
      · refine okk_ck (vp_I (by omega) (by omega)) ?_
        refine okk_le (fun f fI => ?_) (fun f fI => ?_)
        · exact hrec (fun q => by have := q.2; omega)
        · exact okk_some ⟨by omega, by omega, fun _ => ⟨d, by omega⟩, fun q => absurd q (by omega)⟩
theorem okk_firstS (I : IM g u) {p1 : Int32} : okk (fm_firstOf u p1) (fun r => -1 ≤ r.toInt ∧ r.toInt < (u.1 1).toInt ∧ (0 ≤ r.toInt → u.2 12 r.toNatClampNeg = p1 ∧ (u.2 13 r.toNatClampNeg).toInt < 0) ∧ (r.toInt < 0 → ∀ c : Nat, (c : Int) < (u.1 1).toInt → ¬ (u.2 12 c = p1 ∧ (u.2 13 c).toInt < 0))) := by
  have z0 : (0 : Int32).toInt = 0 := by decide
  unfold fm_firstOf
  refine okk_mono (okk_fm_firstOf_2 I 200 p1 (0 : Int32) (by omega) (by omega) (by omega)) (fun r hr => ?_)
  obtain ⟨a1, a2, a3, a4⟩ := hr
  exact ⟨a1, a2, a3, fun q c h => a4 q c (by omega) h⟩
theorem okk_fm_firstOf (I : IM g u) {p1 : Int32} : okk (fm_firstOf u p1) (fun r => (-1 ≤ r.toInt ∧ r.toInt < (u.1 1).toInt)) := okk_mono (okk_firstS I) (fun _ h => ⟨h.1, h.2.1⟩)
theorem okk_firstO (I : IM g u) {e : Int32} (h0 : 0 ≤ e.toInt) (h1 : e.toInt < (u.1 2).toInt) (h2 : ¬ u.2 16 e.toNatClampNeg = 3) : okk (fm_firstOf u e) (fun r => 0 ≤ r.toInt ∧ r.toInt < (u.1 1).toInt ∧ u.2 12 r.toNatClampNeg = e ∧ (u.2 13 r.toNatClampNeg).toInt < 0) := by
  have hc : (e.toNatClampNeg : Int) = e.toInt := cl_I h0
  obtain ⟨c, a1, a2, a3⟩ := IM_f I e.toNatClampNeg (by omega) h2
  refine okk_mono (okk_firstS I) (fun r hr => ?_)
  obtain ⟨b1, b2, b3, b4⟩ := hr
  have hr0 : 0 ≤ r.toInt := by
    by_cases q : r.toInt < 0
    · exact absurd ⟨Int32.toInt_inj.mp (by omega), a3⟩ (b4 q c a1)
    · omega
  exact ⟨hr0, b2, (b3 hr0).1, (b3 hr0).2⟩
end HN1
