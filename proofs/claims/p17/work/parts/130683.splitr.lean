section SPR
variable {g : Nat → Int32} {u w : g_S}
theorem RA_split {u' w' : g_S} {M N : Nat} (R : RA u w) (hN : (u.1 0).toInt = N) (hM : (u.1 1).toInt = M) (i0 : u'.1 0 = u.1 0) (j0 : w'.1 1 = w.1 1) (i1 : u'.1 1 = w'.1 2) (iM : (u'.1 1).toInt = M + 1)
    (ha : ∀ k, (k < 13 ∨ k = 16) → u'.2 k = u.2 k) (hb : ∀ k, (k < 12 ∨ k = 14) → w'.2 k = w.2 k)
    (c13 : ∀ d, d < N → u'.2 13 d = w'.2 12 d) (c14 : ∀ d, d < N → u'.2 14 d = w'.2 13 d) (c15 : ∀ d, d < N → u'.2 15 d = w'.2 15 d)
    (ue : ∀ k d : Nat, 17 ≤ k → ¬ d = M → u'.2 k d = u.2 k d) (we : ∀ k d : Nat, 16 ≤ k → ¬ d = M → w'.2 k d = w.2 k d)
    (un : u'.2 17 M = 0 ∧ u'.2 20 M = -1) (wn : w'.2 16 M = 0 ∧ w'.2 17 M = -1) : RA u' w' := by
  refine ⟨by rw [i0, j0]; exact R.1, i1, fun k hk => ?_, fun d hd => ?_, fun d hd => ?_⟩
  · rw [ha k (by omega), hb k (by omega)]; exact R.2.2.1 k hk
  · rw [i0] at hd
    have hdN : d < N := by omega
    obtain ⟨q7, q8, q9, q10, q12, -, -, -, q16⟩ := R.2.2.2.1 d hd
    refine ⟨?_, ?_, ?_, ?_, ?_, c13 d hdN, c14 d hdN, c15 d hdN, ?_⟩
    · rw [ha 7 (by omega), hb 7 (by omega)]; exact q7
    · rw [ha 8 (by omega), hb 8 (by omega)]; exact q8
    · rw [ha 9 (by omega), hb 9 (by omega)]; exact q9
    · rw [ha 10 (by omega), hb 10 (by omega)]; exact q10
    · rw [ha 12 (by omega), hb 11 (by omega)]; exact q12
    · rw [ha 16 (by omega), hb 14 (by omega)]; exact q16
  · by_cases q : d = M
    · rw [q, un.1, un.2, wn.1, wn.2]
      exact ⟨rfl, fun _ => ⟨rfl, fun y => absurd rfl y⟩⟩
    · rw [ue 17 d (by omega) q, ue 20 d (by omega) q, ue 21 d (by omega) q, ue 22 d (by omega) q, we 16 d (by omega) q, we 17 d (by omega) q, we 18 d (by omega) q, we 19 d (by omega) q]
      exact R.2.2.2.2 d (by omega)
end SPR
