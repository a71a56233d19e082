def pcE (w3 w6 w9 w12 s1 s2 : Int64) : Option Int32 :=
  if 0 < (lg_cmp ((w9 * w3) + (w12 * w6)) (0 : Int64)) then (if (lg_cmp ((w9 * w3) + (w12 * w6)) ((w3 * w3) + (w6 * w6))) < 0 then (if 0 < (lg_cmp (((w9 * w6) - (w12 * w3)) * ((w9 * w6) - (w12 * w3))) ((2500 : Int64) * ((w3 * w3) + (w6 * w6)))) then (some (0 : Int32)) else some (1 : Int32)) else if 0 < (lg_cmp s1 (2500 : Int64)) then (some (0 : Int32)) else some (1 : Int32)) else if 0 < (lg_cmp s2 (2500 : Int64)) then (some (0 : Int32)) else some (1 : Int32)
theorem ea_ (p : Int32) : fcJ_eastOf p = some (p / (10000 : Int32)) := rfl
theorem no_ (p : Int32) : fcJ_northOf p = some (p - p / (10000 : Int32) * (10000 : Int32)) := rfl
def d64 (a b : Int32) : Int64 := Int32.toInt64 (a / (10000 : Int32) - b / (10000 : Int32))
def n64 (a b : Int32) : Int64 := Int32.toInt64 ((a - a / (10000 : Int32) * (10000 : Int32)) - (b - b / (10000 : Int32) * (10000 : Int32)))
theorem pc_c (a b p : Int32) : fcR_isNearPiece a b p = pcE (d64 b a) (n64 b a) (d64 p a) (n64 p a) (sqr b p) (sqr a p) := by
  unfold fcR_isNearPiece pcE d64 n64
  rw [bi_s (ea_ b), bi_s (ea_ a), gl_r, bi_s (no_ b), bi_s (no_ a), gl_r, bi_s (ea_ p), bi_s (ea_ a), gl_r, bi_s (no_ p), bi_s (no_ a), gl_r, gl_r, gl_r, gl_r, bi_s (sqc b p), bi_s (sqc a p)]
theorem pc_m (a b p : Int32) : fm_isBeside p a b = pcE (d64 b a) (n64 b a) (d64 p a) (n64 p a) (sqr p b) (sqr p a) := by
  unfold fm_isBeside pcE d64 n64
  rw [gl_r, gl_r, gl_r, gl_r, gl_r, gl_r, gl_r, bi_s (sqm p b), show sqr p a = (Int32.toInt64 (p / (10000 : Int32) - a / (10000 : Int32))) * (Int32.toInt64 (p / (10000 : Int32) - a / (10000 : Int32))) + (Int32.toInt64 ((p - p / (10000 : Int32) * (10000 : Int32)) - (a - a / (10000 : Int32) * (10000 : Int32)))) * (Int32.toInt64 ((p - p / (10000 : Int32) * (10000 : Int32)) - (a - a / (10000 : Int32) * (10000 : Int32)))) from rfl]
theorem i64_sq {x : Int32} (h1 : -20000 ≤ x.toInt) (h2 : x.toInt ≤ 20000) : (x.toInt64 * x.toInt64).toInt = x.toInt * x.toInt := by
  rw [Int64.toInt_mul, Int32.toInt_toInt64]
  have h : 0 ≤ x.toInt * x.toInt := by
    rcases Int.le_total 0 x.toInt with q | q
    · exact Int.mul_nonneg q q
    · exact Int.mul_nonneg_of_nonpos_of_nonpos q q
  have h' : x.toInt * x.toInt ≤ 400000000 := by
    rcases Int.le_total 0 x.toInt with q | q
    · exact Int.le_trans (Int.mul_le_mul h2 h2 q (by decide)) (by decide)
    · have := Int.mul_le_mul (a := -x.toInt) (b := -x.toInt) (c := 20000) (d := 20000) (by omega) (by omega) (by omega) (by decide)
      rw [Int.neg_mul_neg] at this; omega
  exact Int.bmod_eq_of_le_mul_two (by omega) (by omega)
theorem sqr_toInt {m n : Nat} (hm : m < 100000000) (hn : n < 100000000) : (sqr (nI m) (nI n)).toInt = (((m / 10000 : Nat) : Int) - ((n / 10000 : Nat) : Int)) * (((m / 10000 : Nat) : Int) - ((n / 10000 : Nat) : Int)) + (((m % 10000 : Nat) : Int) - ((n % 10000 : Nat) : Int)) * (((m % 10000 : Nat) : Int) - ((n % 10000 : Nat) : Int)) := by
  have e1 : nI m / (10000 : Int32) = nI (m / 10000) := pk_div (d := 10000) (by omega) (by decide) (by decide)
  have e2 : nI n / (10000 : Int32) = nI (n / 10000) := pk_div (d := 10000) (by omega) (by decide) (by decide)
  have e3 : nI m - nI m / (10000 : Int32) * (10000 : Int32) = nI (m % 10000) := pk_rem (d := 10000) (by omega) (by decide) (by decide)
  have e4 : nI n - nI n / (10000 : Int32) * (10000 : Int32) = nI (n % 10000) := pk_rem (d := 10000) (by omega) (by decide) (by decide)
  unfold sqr
  rw [e3, e4, e1, e2]
  have d1 : (nI (m / 10000) - nI (n / 10000)).toInt = ((m / 10000 : Nat) : Int) - ((n / 10000 : Nat) : Int) := pk_sub_toInt (by omega) (by omega)
  have d2 : (nI (m % 10000) - nI (n % 10000)).toInt = ((m % 10000 : Nat) : Int) - ((n % 10000 : Nat) : Int) := pk_sub_toInt (by omega) (by omega)
  have q1 := i64_sq (x := nI (m / 10000) - nI (n / 10000)) (by rw [d1]; omega) (by rw [d1]; omega)
  have q2 := i64_sq (x := nI (m % 10000) - nI (n % 10000)) (by rw [d2]; omega) (by rw [d2]; omega)
  rw [Int64.toInt_add, q1, q2, d1, d2]
  have b1 : ∀ y : Int, -20000 ≤ y → y ≤ 20000 → 0 ≤ y * y ∧ y * y ≤ 400000000 := by
    intro y h1 h2
    rcases Int.le_total 0 y with q | q
    · exact ⟨Int.mul_nonneg q q, Int.le_trans (Int.mul_le_mul h2 h2 q (by decide)) (by decide)⟩
    · refine ⟨Int.mul_nonneg_of_nonpos_of_nonpos q q, ?_⟩
      have := Int.mul_le_mul (a := -y) (b := -y) (c := 20000) (d := 20000) (by omega) (by omega) (by omega) (by decide)
      rw [Int.neg_mul_neg] at this; omega
  have c1 := b1 (((m / 10000 : Nat) : Int) - ((n / 10000 : Nat) : Int)) (by omega) (by omega)
  have c2 := b1 (((m % 10000 : Nat) : Int) - ((n % 10000 : Nat) : Int)) (by omega) (by omega)
  exact Int.bmod_eq_of_le_mul_two (by omega) (by omega)
theorem sqr_comm {a b : Int32} (ha : 0 ≤ a.toInt ∧ a.toInt ≤ 99999999) (hb : 0 ≤ b.toInt ∧ b.toInt ≤ 99999999) : sqr a b = sqr b a := by
  have z0 : (0 : Int32).toInt = 0 := by decide
  obtain ⟨m, hm1, rfl⟩ := nI_of (x := a) (fun q => by have := Int32.lt_iff_toInt_lt.mp q; omega)
  obtain ⟨n, hn1, rfl⟩ := nI_of (x := b) (fun q => by have := Int32.lt_iff_toInt_lt.mp q; omega)
  rw [nI_toInt hm1] at ha
  rw [nI_toInt hn1] at hb
  refine Int64.toInt_inj.mp ?_
  rw [sqr_toInt (by omega) (by omega), sqr_toInt (by omega) (by omega)]
  have e : ∀ x y : Int, (x - y) * (x - y) = (y - x) * (y - x) := fun x y => by
    rw [← Int.neg_mul_neg (x - y) (x - y), Int.neg_sub]
  rw [e, e ((m % 10000 : Nat) : Int)]
theorem pc_eq {a b p : Int32} (ha : 0 ≤ a.toInt ∧ a.toInt ≤ 99999999) (hb : 0 ≤ b.toInt ∧ b.toInt ≤ 99999999) (hp : 0 ≤ p.toInt ∧ p.toInt ≤ 99999999) : fcR_isNearPiece a b p = fm_isBeside p a b := by
  rw [pc_c, pc_m, sqr_comm hb hp, sqr_comm ha hp]
theorem pcE_b (w3 w6 w9 w12 s1 s2 : Int64) : pcE w3 w6 w9 w12 s1 s2 = some (0 : Int32) ∨ pcE w3 w6 w9 w12 s1 s2 = some (1 : Int32) := by
  unfold pcE
  split
  · split
    · split
      · exact Or.inl rfl
      · exact Or.inr rfl
    · split
      · exact Or.inl rfl
      · exact Or.inr rfl
  · split
    · exact Or.inl rfl
    · exact Or.inr rfl
section NEA
variable {g : Nat → Int32} {u w : g_S}
theorem on1 {e hi : Nat} {p : Int32} (hh : hi ≤ 7) : ∀ (m i : Nat), i ≤ 7 → 8 ≤ m + i → fm_isOn_77 w m (nI e) p (nI hi) (1 : Int32) (nI i) = some (1 : Int32) := by
  intro m
  induction m with
  | zero => intro i h1 h2; omega
  | succ m ih =>
    intro i h1 h2
    rw [fm_isOn_77_s]
    by_cases h : hi ≤ i
    · rw [if_pos ((nI_leI (by omega) (by omega)).mpr h), if_pos (by decide)]
    · rw [if_neg (fun q => h ((nI_leI (by omega) (by omega)).mp q)), if_pos (by decide), nI_1]
      exact ih (i + 1) (by omega) (by omega)
theorem ix8 {r i : Nat} : (8 : Int32) * nI r + nI i = nI (8 * r + i) := by
  rw [show (8 : Int32) = nI 8 from rfl, pk_mul, nI_add]
theorem nearl_eq (hpt : ∀ j : Nat, 0 ≤ (u.2 6 j).toInt ∧ (u.2 6 j).toInt ≤ 99999999) (h6 : u.2 6 = w.2 6) {e r hi : Nat} {p : Int32} (he : e < 60) (hr : r < 8) (hw : w.2 17 e = nI r) (hh : hi ≤ 7) (hp : 0 ≤ p.toInt ∧ p.toInt ≤ 99999999) : ∀ (m i : Nat), i ≤ 7 → 8 ≤ m + i → fcR_isNear_9 u m (nI hi) p (nI (8 * r)) (nI i) = fm_isOn_77 w m (nI e) p (nI hi) (0 : Int32) (nI i) := by
  intro m
  induction m with
  | zero => intro i h1 h2; omega
  | succ m ih =>
    intro i h1 h2
    rw [fcR_isNear_9_s, fm_isOn_77_s]
    by_cases h : hi ≤ i
    · rw [if_pos ((nI_leI (by omega) (by omega)).mpr h), if_pos ((nI_leI (by omega) (by omega)).mpr h), if_pos (by decide)]
    · have hn : ¬ nI hi ≤ nI i := fun q => h ((nI_leI (by omega) (by omega)).mp q)
      have k0 : nI (8 * r) + nI i = nI (8 * r + i) := nI_add _ _
      have k1 : nI (8 * r + i) + (1 : Int32) = nI (8 * r + i + 1) := nI_1 _
      rw [if_neg hn, if_neg hn, if_neg (fun q => q rfl), k0, k1, ck_nI (n := 64) (by omega) (by decide), ck_nI (n := 64) (by omega) (by decide), nI_clamp (n := 8 * r + i) (by omega), nI_clamp (n := 8 * r + i + 1) (by omega)]
      rw [ck_nI he (by decide), nI_clamp (n := e) (by omega), hw, ix8, k1, ck_nI (n := 64) (by omega) (by decide), ck_nI he (by decide), ck_nI (n := 64) (by omega) (by decide), nI_clamp (n := 8 * r + i) (by omega), nI_clamp (n := 8 * r + i + 1) (by omega), ← h6]
      rw [pc_eq (hpt _) (hpt _) hp]
      rcases pcE_b (d64 (u.2 6 (8 * r + i + 1)) (u.2 6 (8 * r + i))) (n64 (u.2 6 (8 * r + i + 1)) (u.2 6 (8 * r + i))) (d64 p (u.2 6 (8 * r + i))) (n64 p (u.2 6 (8 * r + i))) (sqr p (u.2 6 (8 * r + i + 1))) (sqr p (u.2 6 (8 * r + i))) with q | q
      · rw [← pc_m] at q
        rw [bi_s q, bi_s q, if_pos rfl, if_pos rfl, nI_1]
        exact ih (i + 1) (by omega) (by omega)
      · rw [← pc_m] at q
        rw [bi_s q, bi_s q, if_neg (by decide), if_neg (by decide), nI_1]
        exact (on1 hh m (i + 1) (by omega) (by omega)).symm
theorem on_eq (R : RA u w) (S : RS u) (I : IC g u) (J : IM g w) {d e : Nat} (hd : d < 121) (he : (e : Int) < (u.1 1).toInt) (h3 : ¬ u.2 17 e = 3) (hr : ¬ u.2 20 e = -1) (hp : -1 ≤ (u.2 9 d).toInt ∧ (u.2 9 d).toInt ≤ 99999999) : fcJ_isOnStretch u (nI d) (nI e) = fm_isOn w (nI e) (u.2 9 d) (u.2 11 d) := by
  have z := IC_s I
  have z0 : (0 : Int32).toInt = 0 := by decide
  have zm : (-1 : Int32).toInt = -1 := by decide
  have he60 : e < 60 := by omega
  obtain ⟨-, hx⟩ := R.2.2.2.2 e he
  obtain ⟨h20, h21⟩ := hx h3
  have hst := h21 hr
  have r20 := IC_r20 I e
  have r21 := IC_r21 I e
  have r22 := IC_r22 I e
  obtain ⟨r, hr1, hr2⟩ := nI_of (x := u.2 20 e) (fun q => hr (Int32.toInt_inj.mp (by have := Int32.lt_iff_toInt_lt.mp q; omega)))
  have hr8 : r < 8 := by have := nI_toInt hr1; rw [← hr2] at this; omega
  obtain ⟨lo, hlo1, hlo2⟩ := nI_of (x := u.2 21 e) (fun q => by have := Int32.lt_iff_toInt_lt.mp q; omega)
  have hlo : lo ≤ 7 := by have := nI_toInt hlo1; rw [← hlo2] at this; omega
  obtain ⟨hi, hhi1, hhi2⟩ := nI_of (x := u.2 22 e) (fun q => by have := Int32.lt_iff_toInt_lt.mp q; omega)
  have hhi : hi ≤ 7 := by have := nI_toInt hhi1; rw [← hhi2] at this; omega
  unfold fcJ_isOnStretch fm_isOn
  rw [ck_nI he60 (by decide), nI_clamp (n := e) (by omega)]
  show (ck (nI d) 121 <| _) = _
  rw [ck_nI hd (by decide), n31 hd]
  show (if ¬ u.2 9 d = -1 then _ else _) = _
  by_cases a : u.2 9 d = -1
  · rw [if_neg (fun q => q a), if_neg (show ¬ (0 : Int32) ≤ u.2 9 d by rw [a]; decide), ck_nI hd (by decide), ck_nI he60 (by decide), ← h20]
  · have hp0 : 0 ≤ (u.2 9 d).toInt := by
      rcases Int.lt_or_le (u.2 9 d).toInt 0 with q | q
      · exact absurd (Int32.toInt_inj.mp (by omega)) a
      · exact q
    have e0 : (0 : Int32) ≤ u.2 9 d := Int32.le_iff_toInt_le.mpr (by omega)
    rw [if_pos a, if_pos e0, ck_nI he60 (by decide), ck_nI he60 (by decide), ck_nI he60 (by decide), ck_nI he60 (by decide), ck_nI he60 (by decide), ck_nI he60 (by decide)]
    have hcl : fcR_isNear u (u.2 20 e) (u.2 21 e) (u.2 22 e) (u.2 9 d) = fm_isOn_77 w 200 (nI e) (u.2 9 d) (nI hi) (0 : Int32) (nI lo) := by
      show fcR_isNear_9 u 200 (u.2 22 e) (u.2 9 d) (u.2 20 e * (8 : Int32)) (u.2 21 e) = _
      rw [hr2, hlo2, hhi2, show nI r * (8 : Int32) = nI (8 * r) by rw [show (8 : Int32) = nI 8 from rfl, pk_mul, Nat.mul_comm]]
      exact nearl_eq S.1 (RA_k R 6 (by decide)) he60 hr8 (by rw [← h20]; exact hr2) hhi ⟨hp0, hp.2⟩ 200 lo hlo (by omega)
    have hb : ∃ v, fcR_isNear u (u.2 20 e) (u.2 21 e) (u.2 22 e) (u.2 9 d) = some v ∧ (v = 0 ∨ v = 1) := by
      obtain ⟨v, hv, hv2, -⟩ := okk_fcR_isNear I (p1 := u.2 20 e) (p2 := u.2 21 e) (p3 := u.2 22 e) (p4 := u.2 9 d) (by rw [hr2, nI_toInt hr1]; omega) (by omega) (by omega) (by omega) (by omega)
      exact ⟨v, hv, hv2⟩
    obtain ⟨v, hv, hv2⟩ := hb
    rw [bi_s hv, if_pos hv2, ← hv, hcl]
    rcases hst with ⟨t1, t2, t3⟩ | ⟨t1, t2, t3⟩
    · rw [if_neg (fun q => by have := Int32.le_iff_toInt_le.mp q; omega)]
      unfold fm_isOn_50
      rw [ck_nI he60 (by decide), ck_nI he60 (by decide), nI_clamp (n := e) (by omega)]
      show _ = fm_isOn_77 w 200 (nI e) (u.2 9 d) ((w.2 18 e + w.2 19 e) - w.2 18 e) (0 : Int32) (w.2 18 e)
      rw [← t1, ← t2, hlo2, hhi2, Int32.add_comm (nI lo) (nI hi), Int32.add_sub_cancel]
    · rw [if_pos (Int32.le_iff_toInt_le.mpr (by omega))]
      unfold fm_isOn_50
      rw [ck_nI he60 (by decide), ck_nI he60 (by decide), nI_clamp (n := e) (by omega)]
      show _ = fm_isOn_77 w 200 (nI e) (u.2 9 d) ((w.2 18 e + w.2 19 e) - w.2 19 e) (0 : Int32) (w.2 19 e)
      rw [← t1, ← t2, hlo2, hhi2, Int32.add_sub_cancel]
end NEA
