section SPS
variable {g : Nat → Int32} {u w : g_S}
theorem und_m1 (f : Nat → Int32) (top : Int32) : ∀ n, und f top n (-1 : Int32) = false := by
  intro n
  cases n with
  | zero => rfl
  | succ n => rw [und_s, if_pos rfl]
theorem und_st {f : Nat → Int32} {t d : Nat} (ht : t < 120) (hd : d < 120) (h : ¬ d = t) (n : Nat) : und f (nI t) (n + 1) (nI d) = und f (nI t) n (f d) := by
  rw [und_s, if_neg (nI_m1 (by omega)), if_neg (fun q => h ((nI_eq (by omega) (by omega)).mp q)), nI_clamp (by omega)]
theorem und_t {f : Nat → Int32} {t : Nat} (ht : t < 120) (n : Nat) : und f (nI t) (n + 1) (nI t) = true := by
  rw [und_s, if_neg (nI_m1 (by omega)), if_pos rfl]
theorem RS_split {u' : g_S} {t M N : Nat} (S : RS u) (I : IC g u) (hN : (u.1 0).toInt = N) (hM : (u.1 1).toInt = M) (ht : t < N) (i0 : u'.1 0 = u.1 0) (iM : (u'.1 1).toInt = M + 1) (ha : ∀ k, k < 13 → u'.2 k = u.2 k)
    (c13 : ∀ d, d < N → u'.2 13 d = if und (u.2 14) (nI t) 120 (nI d) = true then nI M else u.2 13 d) (c14 : ∀ d, u'.2 14 d = if d = t then -1 else u.2 14 d)
    (ue : ∀ k d : Nat, 17 ≤ k → ¬ d = M → u'.2 k d = u.2 k d) (un : u'.2 18 M = u.2 8 t ∧ u'.2 19 M = nI t) (hr : 0 ≤ (u.2 14 t).toInt)
    (hcl : ∀ (n d : Nat), d < N → und (u.2 14) (nI t) n (nI d) = true → und (u.2 14) (nI t) 120 (nI d) = true) : RS u' := by
  have z := IC_s I
  have zm : (-1 : Int32).toInt = -1 := by decide
  obtain ⟨s1, s2, s3, s4⟩ := S
  have nM : (nI M).toInt = M := nI_toInt (by omega)
  have nt : (nI t).toInt = t := nI_toInt (by omega)
  have cnt : (nI t).toNatClampNeg = t := n31 (by omega)
  have root : ∀ d, d < N → ¬ d = t → (u.2 14 d).toInt < 0 → ¬ und (u.2 14) (nI t) 120 (nI d) = true := fun d hd hne h0 q => by
    have r := IC_r14 I d
    have e : u.2 14 d = -1 := Int32.toInt_inj.mp (by omega)
    rw [und_st (by omega) (by omega) hne 119, e, und_m1] at q
    cases q
  refine ⟨by rw [ha 6 (by omega)]; exact s1, fun d hd => ?_, fun d hd h0 => ?_, fun e he h3 => ?_⟩
  · rw [i0] at hd ⊢
    obtain ⟨a1, a2, a3, a4, a5⟩ := s2 d hd
    rw [ha 12 (by omega), ha 9 (by omega), c13 d (by omega), c14 d, iM]
    refine ⟨a1, a2, a3, ?_, ?_⟩
    · by_cases q : und (u.2 14) (nI t) 120 (nI d) = true
      · rw [if_pos q]; omega
      · rw [if_neg q]; omega
    · by_cases q : d = t
      · rw [if_pos q]; omega
      · rw [if_neg q]; exact a5
  · rw [i0] at hd
    rw [c14 d] at h0 ⊢
    by_cases q : d = t
    · rw [if_pos q] at h0; omega
    · rw [if_neg q] at h0 ⊢
      have hx : ((u.2 14 d).toNatClampNeg : Int) = (u.2 14 d).toInt := cl_I h0
      have hxN := (s2 d hd).2.2.2.2
      have e9 : nI (u.2 14 d).toNatClampNeg = u.2 14 d := Int32.toInt_inj.mp (by rw [nI_toInt (by omega)]; exact hx)
      rw [c13 _ (by omega), c13 d (by omega)]
      by_cases y : und (u.2 14) (nI t) 120 (nI d) = true
      · have y2 : und (u.2 14) (nI t) 120 (nI (u.2 14 d).toNatClampNeg) = true := by
          have y3 := y
          rw [und_st (by omega) (by omega) q 119] at y3
          rw [e9]; exact und_m y3
        rw [if_pos y, if_pos y2]
      · have y2 : ¬ und (u.2 14) (nI t) 120 (nI (u.2 14 d).toNatClampNeg) = true := fun y3 => y (hcl 121 d (by omega) (by
          rw [und_st (by omega) (by omega) q 120, ← e9]; exact y3))
        rw [if_neg y, if_neg y2]
        exact s3 d hd h0
  · by_cases q : e = M
    · rw [q, un.1, un.2, cnt, ha 8 (by omega), c13 t ht, if_pos (und_t (by omega) 119), c14 t, if_pos rfl, i0]
      refine ⟨by omega, by omega, nM, rfl, rfl, fun d hd b1 b2 => ?_⟩
      rw [c14 d] at b2
      rw [c13 d (by omega)] at b1
      by_cases y : d = t
      · omega
      · rw [if_neg y] at b2
        rw [if_neg (root d (by omega) y b2)] at b1
        have := (s2 d hd).2.2.2.1
        omega
    · rw [ue 17 e (by omega) q] at h3
      have heu : (e : Int) < (u.1 1).toInt := by omega
      obtain ⟨a1, a2, a3, a4, a5, a6⟩ := s4 e heu h3
      have hx : ((u.2 19 e).toNatClampNeg : Int) = (u.2 19 e).toInt := cl_I a1
      have hft : ¬ (u.2 19 e).toNatClampNeg = t := fun y => by rw [y] at a4; rw [a4] at hr; omega
      rw [ue 18 e (by omega) q, ue 19 e (by omega) q, ha 8 (by omega), i0, c13 _ (by omega), if_neg (root _ (by omega) hft (by rw [a4]; omega)), c14, if_neg hft]
      refine ⟨a1, a2, a3, a4, a5, fun d hd b1 b2 => ?_⟩
      rw [c14 d] at b2
      rw [c13 d (by omega)] at b1
      by_cases y : und (u.2 14) (nI t) 120 (nI d) = true
      · rw [if_pos y] at b1; omega
      · rw [if_neg y] at b1
        by_cases y2 : d = t
        · exact absurd (by rw [y2]; exact und_t (by omega) 119) y
        · rw [if_neg y2] at b2
          exact a6 d hd b1 b2
end SPS
