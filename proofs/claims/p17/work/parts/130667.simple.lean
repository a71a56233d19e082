section SIM
variable {g : Nat → Int32} {u w : g_S}
theorem eqf_w (k : Nat) (i v : Int32) (k' : Nat) (h : ¬ k' = k) : (g_sA u k i v).2 k' = u.2 k' := funext (fun j => eq_w k i v k' j h)
theorem RS_ext {u' : g_S} (h0 : u'.1 0 = u.1 0) (h1 : u'.1 1 = u.1 1) (h6 : u'.2 6 = u.2 6) (h8 : u'.2 8 = u.2 8) (h9 : u'.2 9 = u.2 9) (h12 : u'.2 12 = u.2 12) (h13 : u'.2 13 = u.2 13) (h14 : u'.2 14 = u.2 14) (h17 : u'.2 17 = u.2 17) (h18 : u'.2 18 = u.2 18) (h19 : u'.2 19 = u.2 19) (S : RS u) : RS u' := by
  unfold RS
  rw [h0, h1, h6, h8, h9, h12, h13, h14, h17, h18, h19]
  exact S
theorem rdk (v : g_S) (k : Nat) (i x : Int32) (e : Nat) : (g_sA v k i x).2 k e = if e = i.toNatClampNeg then x else v.2 k e := by
  rw [rdA]
  by_cases y : e = i.toNatClampNeg
  · rw [if_pos ⟨rfl, y⟩, if_pos y]
  · rw [if_neg (fun q => y q.2), if_neg y]
theorem RS_w (S : RS u) (k : Nat) (i v : Int32) (hk : ¬ 6 = k ∧ ¬ 8 = k ∧ ¬ 9 = k ∧ ¬ 12 = k ∧ ¬ 13 = k ∧ ¬ 14 = k ∧ ¬ 17 = k ∧ ¬ 18 = k ∧ ¬ 19 = k) : RS (g_sA u k i v) :=
  RS_ext (u := u) rfl rfl (eqf_w k i v 6 hk.1) (eqf_w k i v 8 hk.2.1) (eqf_w k i v 9 hk.2.2.1) (eqf_w k i v 12 hk.2.2.2.1) (eqf_w k i v 13 hk.2.2.2.2.1) (eqf_w k i v 14 hk.2.2.2.2.2.1) (eqf_w k i v 17 hk.2.2.2.2.2.2.1) (eqf_w k i v 18 hk.2.2.2.2.2.2.2.1) (eqf_w k i v 19 hk.2.2.2.2.2.2.2.2) S
theorem RA_ws (R : RA u w) (k : Nat) (i v : Int32) (hk : k < 7) : RA (g_sA u k i v) (g_sA w k i v) := by
  obtain ⟨r1, r2, r3, r4, r5⟩ := R
  refine ⟨r1, r2, fun k' hk' => ?_, fun c hc => ?_, fun e he => ?_⟩
  · funext j
    rw [rdA, rdA]
    by_cases q : k' = k ∧ j = i.toNatClampNeg
    · rw [if_pos q, if_pos q]
    · rw [if_neg q, if_neg q, r3 k' hk']
  · rw [eqf_w k i v 7 (by omega), eqf_w k i v 8 (by omega), eqf_w k i v 9 (by omega), eqf_w k i v 10 (by omega), eqf_w k i v 12 (by omega), eqf_w k i v 13 (by omega), eqf_w k i v 14 (by omega), eqf_w k i v 15 (by omega), eqf_w k i v 16 (by omega), eqf_w k i v 7 (by omega), eqf_w k i v 8 (by omega), eqf_w k i v 9 (by omega), eqf_w k i v 10 (by omega), eqf_w k i v 11 (by omega), eqf_w k i v 12 (by omega), eqf_w k i v 13 (by omega), eqf_w k i v 15 (by omega), eqf_w k i v 14 (by omega)]
    exact r4 c hc
  · rw [eqf_w k i v 17 (by omega), eqf_w k i v 20 (by omega), eqf_w k i v 21 (by omega), eqf_w k i v 22 (by omega), eqf_w k i v 16 (by omega), eqf_w k i v 17 (by omega), eqf_w k i v 18 (by omega), eqf_w k i v 19 (by omega)]
    exact r5 e he
theorem RA_mark (R : RA u w) (i v : Int32) : RA (g_sA u 16 i v) (g_sA w 14 i v) := by
  obtain ⟨r1, r2, r3, r4, r5⟩ := R
  refine ⟨r1, r2, fun k' hk' => ?_, fun c hc => ?_, fun e he => ?_⟩
  · rw [eqf_w 16 i v k' (by omega), eqf_w 14 i v k' (by omega)]; exact r3 k' hk'
  · obtain ⟨q7, q8, q9, q10, q12, q13, q14, q15, q16⟩ := r4 c hc
    refine ⟨?_, ?_, ?_, ?_, ?_, ?_, ?_, ?_, ?_⟩
    · rw [eqf_w 16 i v 7 (by decide), eqf_w 14 i v 7 (by decide)]; exact q7
    · rw [eqf_w 16 i v 8 (by decide), eqf_w 14 i v 8 (by decide)]; exact q8
    · rw [eqf_w 16 i v 9 (by decide), eqf_w 14 i v 9 (by decide)]; exact q9
    · rw [eqf_w 16 i v 10 (by decide), eqf_w 14 i v 10 (by decide)]; exact q10
    · rw [eqf_w 16 i v 12 (by decide), eqf_w 14 i v 11 (by decide)]; exact q12
    · rw [eqf_w 16 i v 13 (by decide), eqf_w 14 i v 12 (by decide)]; exact q13
    · rw [eqf_w 16 i v 14 (by decide), eqf_w 14 i v 13 (by decide)]; exact q14
    · rw [eqf_w 16 i v 15 (by decide), eqf_w 14 i v 15 (by decide)]; exact q15
    · rw [rdA, rdA]
      by_cases z : c = i.toNatClampNeg
      · rw [if_pos ⟨rfl, z⟩, if_pos ⟨rfl, z⟩]
      · rw [if_neg (fun y => z y.2), if_neg (fun y => z y.2)]; exact q16
  · rw [eqf_w 16 i v 17 (by decide), eqf_w 16 i v 20 (by decide), eqf_w 16 i v 21 (by decide), eqf_w 16 i v 22 (by decide), eqf_w 14 i v 16 (by decide), eqf_w 14 i v 17 (by decide), eqf_w 14 i v 18 (by decide), eqf_w 14 i v 19 (by decide)]
    exact r5 e he
theorem RA_state (R : RA u w) (i v : Int32) (h3 : ¬ u.2 17 i.toNatClampNeg = 3) : RA (g_sA u 17 i v) (g_sA w 16 i v) := by
  obtain ⟨r1, r2, r3, r4, r5⟩ := R
  refine ⟨r1, r2, fun k' hk' => ?_, fun c hc => ?_, fun e he => ?_⟩
  · rw [eqf_w 17 i v k' (by omega), eqf_w 16 i v k' (by omega)]; exact r3 k' hk'
  · obtain ⟨q7, q8, q9, q10, q12, q13, q14, q15, q16⟩ := r4 c hc
    refine ⟨?_, ?_, ?_, ?_, ?_, ?_, ?_, ?_, ?_⟩
    · rw [eqf_w 17 i v 7 (by decide), eqf_w 16 i v 7 (by decide)]; exact q7
    · rw [eqf_w 17 i v 8 (by decide), eqf_w 16 i v 8 (by decide)]; exact q8
    · rw [eqf_w 17 i v 9 (by decide), eqf_w 16 i v 9 (by decide)]; exact q9
    · rw [eqf_w 17 i v 10 (by decide), eqf_w 16 i v 10 (by decide)]; exact q10
    · rw [eqf_w 17 i v 12 (by decide), eqf_w 16 i v 11 (by decide)]; exact q12
    · rw [eqf_w 17 i v 13 (by decide), eqf_w 16 i v 12 (by decide)]; exact q13
    · rw [eqf_w 17 i v 14 (by decide), eqf_w 16 i v 13 (by decide)]; exact q14
    · rw [eqf_w 17 i v 15 (by decide), eqf_w 16 i v 15 (by decide)]; exact q15
    · rw [eqf_w 17 i v 16 (by decide), eqf_w 16 i v 14 (by decide)]; exact q16
  · obtain ⟨q17, qx⟩ := r5 e he
    refine ⟨?_, fun h => ?_⟩
    · rw [rdA, rdA]
      by_cases z : e = i.toNatClampNeg
      · rw [if_pos ⟨rfl, z⟩, if_pos ⟨rfl, z⟩]
      · rw [if_neg (fun y => z y.2), if_neg (fun y => z y.2)]; exact q17
    · have h' : ¬ u.2 17 e = 3 := by
        rw [rdA] at h
        by_cases z : e = i.toNatClampNeg
        · rw [z]; exact h3
        · rw [if_neg (fun y => z y.2)] at h; exact h
      rw [eqf_w 17 i v 20 (by decide), eqf_w 17 i v 21 (by decide), eqf_w 17 i v 22 (by decide), eqf_w 16 i v 17 (by decide), eqf_w 16 i v 18 (by decide), eqf_w 16 i v 19 (by decide)]
      exact qx h'
theorem RS_state (S : RS u) (i v : Int32) (h3 : ¬ u.2 17 i.toNatClampNeg = 3) : RS (g_sA u 17 i v) := by
  obtain ⟨s1, s2, s3, s4⟩ := S
  refine ⟨?_, ?_, ?_, fun e he h => ?_⟩
  · rw [eqf_w 17 i v 6 (by decide)]; exact s1
  · rw [eqf_w 17 i v 12 (by decide), eqf_w 17 i v 9 (by decide), eqf_w 17 i v 13 (by decide), eqf_w 17 i v 14 (by decide)]; exact s2
  · rw [eqf_w 17 i v 14 (by decide), eqf_w 17 i v 13 (by decide)]; exact s3
  · have h' : ¬ u.2 17 e = 3 := by
      rw [rdA] at h
      by_cases z : e = i.toNatClampNeg
      · rw [z]; exact h3
      · rw [if_neg (fun y => z y.2)] at h; exact h
    rw [eqf_w 17 i v 19 (by decide), eqf_w 17 i v 13 (by decide), eqf_w 17 i v 14 (by decide), eqf_w 17 i v 18 (by decide), eqf_w 17 i v 8 (by decide)]
    exact s4 e he h'
theorem RA_watch (R : RA u w) (i rd a b : Int32) (hab : ¬ a.toInt = b.toInt) : RA (g_sA (g_sA (g_sA u 20 i rd) 21 i (if b < a then b else a)) 22 i (if a < b then b else a)) (g_sA (g_sA (g_sA w 17 i rd) 18 i a) 19 i b) := by
  obtain ⟨r1, r2, r3, r4, r5⟩ := R
  refine ⟨r1, r2, fun k' hk' => ?_, fun c hc => ?_, fun e he => ?_⟩
  · rw [eqf_w 22 _ _ k' (by omega), eqf_w 21 _ _ k' (by omega), eqf_w 20 _ _ k' (by omega), eqf_w 19 _ _ k' (by omega), eqf_w 18 _ _ k' (by omega), eqf_w 17 _ _ k' (by omega)]; exact r3 k' hk'
  · obtain ⟨q7, q8, q9, q10, q12, q13, q14, q15, q16⟩ := r4 c hc
    refine ⟨?_, ?_, ?_, ?_, ?_, ?_, ?_, ?_, ?_⟩
    · rw [eqf_w 22 _ _ 7 (by decide), eqf_w 21 _ _ 7 (by decide), eqf_w 20 _ _ 7 (by decide), eqf_w 19 _ _ 7 (by decide), eqf_w 18 _ _ 7 (by decide), eqf_w 17 _ _ 7 (by decide)]; exact q7
    · rw [eqf_w 22 _ _ 8 (by decide), eqf_w 21 _ _ 8 (by decide), eqf_w 20 _ _ 8 (by decide), eqf_w 19 _ _ 8 (by decide), eqf_w 18 _ _ 8 (by decide), eqf_w 17 _ _ 8 (by decide)]; exact q8
    · rw [eqf_w 22 _ _ 9 (by decide), eqf_w 21 _ _ 9 (by decide), eqf_w 20 _ _ 9 (by decide), eqf_w 19 _ _ 9 (by decide), eqf_w 18 _ _ 9 (by decide), eqf_w 17 _ _ 9 (by decide)]; exact q9
    · rw [eqf_w 22 _ _ 10 (by decide), eqf_w 21 _ _ 10 (by decide), eqf_w 20 _ _ 10 (by decide), eqf_w 19 _ _ 10 (by decide), eqf_w 18 _ _ 10 (by decide), eqf_w 17 _ _ 10 (by decide)]; exact q10
    · rw [eqf_w 22 _ _ 12 (by decide), eqf_w 21 _ _ 12 (by decide), eqf_w 20 _ _ 12 (by decide), eqf_w 19 _ _ 11 (by decide), eqf_w 18 _ _ 11 (by decide), eqf_w 17 _ _ 11 (by decide)]; exact q12
    · rw [eqf_w 22 _ _ 13 (by decide), eqf_w 21 _ _ 13 (by decide), eqf_w 20 _ _ 13 (by decide), eqf_w 19 _ _ 12 (by decide), eqf_w 18 _ _ 12 (by decide), eqf_w 17 _ _ 12 (by decide)]; exact q13
    · rw [eqf_w 22 _ _ 14 (by decide), eqf_w 21 _ _ 14 (by decide), eqf_w 20 _ _ 14 (by decide), eqf_w 19 _ _ 13 (by decide), eqf_w 18 _ _ 13 (by decide), eqf_w 17 _ _ 13 (by decide)]; exact q14
    · rw [eqf_w 22 _ _ 15 (by decide), eqf_w 21 _ _ 15 (by decide), eqf_w 20 _ _ 15 (by decide), eqf_w 19 _ _ 15 (by decide), eqf_w 18 _ _ 15 (by decide), eqf_w 17 _ _ 15 (by decide)]; exact q15
    · rw [eqf_w 22 _ _ 16 (by decide), eqf_w 21 _ _ 16 (by decide), eqf_w 20 _ _ 16 (by decide), eqf_w 19 _ _ 14 (by decide), eqf_w 18 _ _ 14 (by decide), eqf_w 17 _ _ 14 (by decide)]; exact q16
  · obtain ⟨q17, qx⟩ := r5 e he
    rw [eqf_w 22 _ _ 17 (by decide), eqf_w 21 _ _ 17 (by decide), eqf_w 20 _ _ 17 (by decide), eqf_w 19 _ _ 16 (by decide), eqf_w 18 _ _ 16 (by decide), eqf_w 17 _ _ 16 (by decide)]
    refine ⟨q17, fun h => ?_⟩
    have k20 : (g_sA (g_sA (g_sA u 20 i rd) 21 i (if b < a then b else a)) 22 i (if a < b then b else a)).2 20 e = if e = i.toNatClampNeg then rd else u.2 20 e := by rw [eqf_w 22 _ _ 20 (by decide), eqf_w 21 _ _ 20 (by decide), rdk]
    have k21 : (g_sA (g_sA (g_sA u 20 i rd) 21 i (if b < a then b else a)) 22 i (if a < b then b else a)).2 21 e = if e = i.toNatClampNeg then (if b < a then b else a) else u.2 21 e := by rw [eqf_w 22 _ _ 21 (by decide), rdk, eqf_w 20 _ _ 21 (by decide)]
    have k22 : (g_sA (g_sA (g_sA u 20 i rd) 21 i (if b < a then b else a)) 22 i (if a < b then b else a)).2 22 e = if e = i.toNatClampNeg then (if a < b then b else a) else u.2 22 e := by rw [rdk, eqf_w 21 _ _ 22 (by decide), eqf_w 20 _ _ 22 (by decide)]
    have m17 : (g_sA (g_sA (g_sA w 17 i rd) 18 i a) 19 i b).2 17 e = if e = i.toNatClampNeg then rd else w.2 17 e := by rw [eqf_w 19 _ _ 17 (by decide), eqf_w 18 _ _ 17 (by decide), rdk]
    have m18 : (g_sA (g_sA (g_sA w 17 i rd) 18 i a) 19 i b).2 18 e = if e = i.toNatClampNeg then a else w.2 18 e := by rw [eqf_w 19 _ _ 18 (by decide), rdk, eqf_w 17 _ _ 18 (by decide)]
    have m19 : (g_sA (g_sA (g_sA w 17 i rd) 18 i a) 19 i b).2 19 e = if e = i.toNatClampNeg then b else w.2 19 e := by rw [rdk, eqf_w 18 _ _ 19 (by decide), eqf_w 17 _ _ 19 (by decide)]
    rw [k20, k21, k22, m17, m18, m19]
    by_cases z : e = i.toNatClampNeg
    · simp only [if_pos z]
      refine ⟨trivial, fun _ => ?_⟩
      by_cases q : a < b
      · have q' := Int32.lt_iff_toInt_lt.mp q
        rw [if_neg (show ¬ b < a from fun y => by have := Int32.lt_iff_toInt_lt.mp y; omega), if_pos q]
        exact Or.inl ⟨rfl, rfl, q'⟩
      · have q' := mt Int32.lt_iff_toInt_lt.mpr q
        rw [if_pos (show b < a from Int32.lt_iff_toInt_lt.mpr (by omega)), if_neg q]
        exact Or.inr ⟨rfl, rfl, by omega⟩
    · simp only [if_neg z]
      exact qx h
end SIM
