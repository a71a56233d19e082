section RDS
variable {g : Nat → Int32} {u w : g_S}
theorem isb1 {a b : Int32} (h : 0 ≤ a.toInt ∧ a.toInt < b.toInt) : fcJ_isBelow a b = some (1 : Int32) := by
  have z0 : (0 : Int32).toInt = 0 := by decide
  unfold fcJ_isBelow
  rw [if_neg (fun q => by have := Int32.lt_iff_toInt_lt.mp q; omega), if_neg (fun q => by have := Int32.le_iff_toInt_le.mp q; omega)]
theorem isb0 {a b : Int32} (h : ¬ (0 ≤ a.toInt ∧ a.toInt < b.toInt)) : fcJ_isBelow a b = some (0 : Int32) := by
  have z0 : (0 : Int32).toInt = 0 := by decide
  unfold fcJ_isBelow
  by_cases c : a < 0
  · rw [if_pos c]
  · have c1 := mt Int32.lt_iff_toInt_lt.mpr c
    rw [if_neg c, if_pos (Int32.le_iff_toInt_le.mpr (by omega))]
theorem isc1 (J : IM g w) {p : Int32} (h : 0 ≤ p.toInt ∧ p.toInt < (w.1 1).toInt) : fm_isCall w p = some (1 : Int32) := by
  have z := IM_s J
  have t : ((w.1 1) - (1 : Int32)).toInt = (w.1 1).toInt - 1 := oi_sub rfl (by decide) (by omega) (by omega)
  have z0 : (0 : Int32).toInt = 0 := by decide
  unfold fm_isCall
  rw [fm_in_1 (by omega)]; rfl
theorem isc0 (J : IM g w) {p : Int32} (h : ¬ (0 ≤ p.toInt ∧ p.toInt < (w.1 1).toInt)) : fm_isCall w p = some (0 : Int32) := by
  have z := IM_s J
  have t : ((w.1 1) - (1 : Int32)).toInt = (w.1 1).toInt - 1 := oi_sub rfl (by decide) (by omega) (by omega)
  have z0 : (0 : Int32).toInt = 0 := by decide
  unfold fm_isCall
  rw [fm_in_0 (by omega)]; rfl
theorem ise1 (J : IM g w) {p : Int32} (h : 0 ≤ p.toInt ∧ p.toInt < (w.1 2).toInt) : fm_isEvent w p = some (1 : Int32) := by
  have z := IM_s J
  have t : ((w.1 2) - (1 : Int32)).toInt = (w.1 2).toInt - 1 := oi_sub rfl (by decide) (by omega) (by omega)
  have z0 : (0 : Int32).toInt = 0 := by decide
  unfold fm_isEvent
  rw [fm_in_1 (by omega)]; rfl
theorem ise0 (J : IM g w) {p : Int32} (h : ¬ (0 ≤ p.toInt ∧ p.toInt < (w.1 2).toInt)) : fm_isEvent w p = some (0 : Int32) := by
  have z := IM_s J
  have t : ((w.1 2) - (1 : Int32)).toInt = (w.1 2).toInt - 1 := oi_sub rfl (by decide) (by omega) (by omega)
  have z0 : (0 : Int32).toInt = 0 := by decide
  unfold fm_isEvent
  rw [fm_in_0 (by omega)]; rfl
theorem nat_of {p : Int32} {n : Int} (h : 0 ≤ p.toInt ∧ p.toInt < n) : ∃ a : Nat, p = nI a ∧ (a : Int) < n ∧ a < 2 ^ 31 := by
  obtain ⟨a, h1, h2⟩ := nI_of (x := p) (fun q => by have := Int32.lt_iff_toInt_lt.mp q; rw [show (0 : Int32).toInt = 0 by decide] at this; omega)
  refine ⟨a, h2, ?_, h1⟩
  rw [h2, nI_toInt h1] at h
  exact h.2
theorem two_c1 {p1 p2 : Int32} (h1 : 0 ≤ p1.toInt ∧ p1.toInt < (u.1 0).toInt) (h2 : 0 ≤ p2.toInt ∧ p2.toInt < (u.1 0).toInt) (h3 : ¬ p1 = p2) : fcJ_needTwoCalls u p1 p2 = some 0 := by
  unfold fcJ_needTwoCalls
  rw [bi_s (isb1 h1), if_neg (by decide), bi_s (isb1 h2), if_neg (by decide), if_neg h3]; rfl
theorem two_c0 {p1 p2 : Int32} (h : ¬ ((0 ≤ p1.toInt ∧ p1.toInt < (u.1 0).toInt) ∧ (0 ≤ p2.toInt ∧ p2.toInt < (u.1 0).toInt) ∧ ¬ p1 = p2)) : fcJ_needTwoCalls u p1 p2 = some 1 := by
  unfold fcJ_needTwoCalls
  by_cases h1 : 0 ≤ p1.toInt ∧ p1.toInt < (u.1 0).toInt
  · rw [bi_s (isb1 h1), if_neg (by decide)]
    by_cases h2 : 0 ≤ p2.toInt ∧ p2.toInt < (u.1 0).toInt
    · rw [bi_s (isb1 h2), if_neg (by decide)]
      by_cases h3 : p1 = p2
      · rw [if_pos h3]; rfl
      · exact absurd ⟨h1, h2, h3⟩ h
    · rw [bi_s (isb0 h2), if_pos rfl]; rfl
  · rw [bi_s (isb0 h1), if_pos rfl]; rfl
theorem kd_of (I : IC g u) (c : Nat) : ∃ k : Nat, k < 8 ∧ u.2 8 c = nI k := by
  have r := IC_r8 I c
  obtain ⟨k, h1, h2, -⟩ := nat_of (p := u.2 8 c) (n := 8) (by omega)
  exact ⟨k, by omega, h1⟩
def shR (E B : Int32) : Option (Nat × Int32) := if E = 0 then some (5, (0 : Int32)) else some (0, ((1000 : Int32) * B) / E)
theorem share_c (I : IC g u) {a b m k : Nat} (ha : (a : Int) < (u.1 0).toInt) (hb : (b : Int) < (u.1 0).toInt) (hab : ¬ a = b) (hm : m = if a < b then b else a) (hk8 : k < 8) (hk : u.2 8 m = nI k) : fcJ_share u (nI a) (nI b) = shR (wS (u.2 4) k (u.2 10 a ||| u.2 10 b)) (wS (u.2 4) k (u.2 10 a &&& u.2 10 b)) := by
  have z := IC_s I
  have ca : (nI a).toInt = a := nI_toInt (by omega)
  have cb : (nI b).toInt = b := nI_toInt (by omega)
  have hmx : (if nI a < nI b then nI b else nI a) = nI m := by
    rw [hm]
    by_cases q : a < b
    · rw [if_pos ((nI_ltI (by omega) (by omega)).mpr q), if_pos q]
    · rw [if_neg (fun y => q ((nI_ltI (by omega) (by omega)).mp y)), if_neg q]
  have hm121 : m < 121 := by rw [hm]; split <;> omega
  unfold fcJ_share shR
  rw [bi_s (two_c1 (by omega) (by omega) (fun q => hab ((nI_eq (by omega) (by omega)).mp q))), if_pos rfl, hmx, ck_nI hm121 (by decide), n31 hm121, hk]
  show (ck (nI a) 121 <| ck (nI b) 121 <| _) = _
  rw [ck_nI (n := 121) (by omega) (by decide), ck_nI (n := 121) (by omega) (by decide), n31 (by omega), n31 (by omega), bi_s (weigh_e hk8 _)]
  by_cases q : wS (u.2 4) k (u.2 10 a ||| u.2 10 b) = 0
  · rw [if_neg (fun y => y q), if_pos q]
  · rw [if_pos q, if_neg q, ck_nI (n := 121) (by omega) (by decide), ck_nI (n := 121) (by omega) (by decide), bi_s (weigh_e hk8 _), if_neg q]
def shM (w : g_S) (E B : Int32) : Option (Int32 × g_S) := if E = 0 then some ((0 : Int32), g_sI w 0 2) else some (((1000 : Int32) * B) / E, g_sI w 0 0)
theorem share_m (J : IM g w) {a b m k : Nat} (ha : (a : Int) < (w.1 1).toInt) (hb : (b : Int) < (w.1 1).toInt) (hab : ¬ a = b) (hm : m = if a < b then b else a) (hk8 : k < 8) (hk : w.2 8 m = nI k) : fm_share w (nI a) (nI b) = shM w (wS (w.2 4) k (w.2 10 a ||| w.2 10 b)) (wS (w.2 4) k (w.2 10 a &&& w.2 10 b)) := by
  have z := IM_s J
  have ca : (nI a).toInt = a := nI_toInt (by omega)
  have cb : (nI b).toInt = b := nI_toInt (by omega)
  have n1 : (nI a).toNatClampNeg = a := n31 (by omega)
  have n2 : (nI b).toNatClampNeg = b := n31 (by omega)
  have h101 : ∀ y0 : Int32, y0 = wS (w.2 4) k (w.2 10 a ||| w.2 10 b) → fm_share_79 w (nI a) (nI b) (1 : Int32) (nI k) y0 = shM w (wS (w.2 4) k (w.2 10 a ||| w.2 10 b)) (wS (w.2 4) k (w.2 10 a &&& w.2 10 b)) := by
    intro y0 hy
    unfold fm_share_79 shM
    rw [if_pos (by decide)]
    by_cases q : y0 = 0
    · rw [if_neg (fun y => y q), if_pos (by rw [← hy]; exact q)]
      unfold fm_share_101
      rw [bi_s (fm_thr_2 w 0)]
      dsimp only
      rw [if_neg (by decide)]
    · rw [if_pos q, if_neg (by rw [← hy]; exact q)]
      unfold fm_share_101
      rw [bi_s (fm_thr_0 w)]
      dsimp only
      rw [if_pos rfl, ck_nI (n := 120) (by omega) (by decide), ck_nI (n := 120) (by omega) (by decide), n1, n2]
      have e : fm_sum (g_sI w 0 0) ((g_sI w 0 0).2 10 a &&& (g_sI w 0 0).2 10 b) (nI k) = some (wS (w.2 4) k (w.2 10 a &&& w.2 10 b)) := sum_e (w := g_sI w 0 0) hk8 _
      rw [bi_s e, if_neg q, hy]
  unfold fm_share
  rw [bi_s (isc1 J (by omega)), if_neg (by decide), bi_s (isc1 J (by omega)), if_neg (by decide), if_neg (fun q => hab ((nI_eq (by omega) (by omega)).mp q))]
  unfold fm_share_26
  rw [if_neg (by decide), n1, n2]
  have h50 : fm_share_50 w (nI a) (nI b) (1 : Int32) (nI k) = shM w (wS (w.2 4) k (w.2 10 a ||| w.2 10 b)) (wS (w.2 4) k (w.2 10 a &&& w.2 10 b)) := by
    unfold fm_share_50
    rw [if_neg (by decide), ck_nI (n := 120) (by omega) (by decide), ck_nI (n := 120) (by omega) (by decide), n1, n2, bi_s (sum_e hk8 _)]
    exact h101 _ rfl
  by_cases q : a < b
  · rw [if_pos (nI_le (by omega) (by omega)), ck_nI (n := 120) (by omega) (by decide)]
    rw [if_pos q] at hm
    rw [show w.2 8 b = nI k by rw [← hm]; exact hk]; exact h50
  · rw [if_neg (fun y => q (by have := (nI_leI (by omega) (by omega)).mp y; omega)), ck_nI (n := 120) (by omega) (by decide)]
    rw [if_neg q] at hm
    rw [show w.2 8 a = nI k by rw [← hm]; exact hk]; exact h50
theorem share_m0 (J : IM g w) {p1 p2 : Int32} (h : ¬ ((0 ≤ p1.toInt ∧ p1.toInt < (w.1 1).toInt) ∧ (0 ≤ p2.toInt ∧ p2.toInt < (w.1 1).toInt) ∧ ¬ p1 = p2)) : fm_share w p1 p2 = some ((0 : Int32), g_sI w 0 1) := by
  have h26 : fm_share_26 w p1 p2 (0 : Int32) = some ((0 : Int32), g_sI w 0 1) := by
    unfold fm_share_26
    rw [if_pos rfl]
    unfold fm_share_50
    rw [if_pos rfl]
    unfold fm_share_79
    rw [if_neg (fun q => q rfl), if_neg (fun q => q rfl)]
    unfold fm_share_101
    rw [bi_s (fm_thr_1 w 1 0)]
    dsimp only
    rw [if_neg (by decide)]
  unfold fm_share
  by_cases h1 : 0 ≤ p1.toInt ∧ p1.toInt < (w.1 1).toInt
  · rw [bi_s (isc1 J h1), if_neg (by decide)]
    by_cases h2 : 0 ≤ p2.toInt ∧ p2.toInt < (w.1 1).toInt
    · rw [bi_s (isc1 J h2), if_neg (by decide)]
      by_cases h3 : p1 = p2
      · rw [if_pos h3]; exact h26
      · exact absurd ⟨h1, h2, h3⟩ h
    · rw [bi_s (isc0 J h2), if_pos rfl]; exact h26
  · rw [bi_s (isc0 J h1), if_pos rfl]; exact h26
end RDS
