section MRG
variable {g : Nat → Int32} {u w : g_S}
theorem cnt_c (e : Int32) {N : Nat} (hN : u.1 0 = nI N) (hN2 : N ≤ 120) : ∀ (j m i : Nat), i + j = N → j < m → fcA_countIn_4 u m e (nI (mu_ (u.2 13) e i)) (nI i) = some (nI (mu_ (u.2 13) e N)) := by
  intro j
  induction j with
  | zero =>
    intro m i hi hm
    obtain ⟨m, rfl⟩ : ∃ m', m = m' + 1 := ⟨m - 1, by omega⟩
    obtain rfl : i = N := by omega
    rw [fcA_countIn_4_s, hN, if_pos (nI_le (Nat.le_refl _) (by omega))]
  | succ j ih =>
    intro m i hi hm
    obtain ⟨m, rfl⟩ : ∃ m', m = m' + 1 := ⟨m - 1, by omega⟩
    rw [fcA_countIn_4_s, hN, if_neg (nI_ge (by omega) (by omega)), ck_nI (n := 121) (by omega) (by decide), n31 (by omega), nI_1, nI_1]
    have := ih m (i + 1) (by omega) (by omega)
    rw [mu_s] at this
    by_cases q : u.2 13 i = e
    · rw [if_pos q] at this; rw [if_neg (fun y => y q)]; exact this
    · rw [if_neg q] at this; rw [if_pos q]; exact this
theorem cntc_e (I : IC g u) (e : Int32) {N : Nat} (hN : u.1 0 = nI N) (hN2 : N ≤ 120) : fcA_countIn u e = some (nI (mu_ (u.2 13) e N)) := cnt_c e hN hN2 N 200 0 (by omega) (by omega)
theorem cnt_m (e : Int32) {N : Nat} (hN : w.1 1 = nI N) (hN2 : N ≤ 120) : ∀ (j m i : Nat), i + j = N → j < m → fm_size_4 w m e (nI (mu_ (w.2 12) e i)) (nI i) = some (nI (mu_ (w.2 12) e N)) := by
  intro j
  induction j with
  | zero =>
    intro m i hi hm
    obtain ⟨m, rfl⟩ : ∃ m', m = m' + 1 := ⟨m - 1, by omega⟩
    obtain rfl : i = N := by omega
    rw [fm_size_4_s, hN, if_pos (nI_le (Nat.le_refl _) (by omega))]
  | succ j ih =>
    intro m i hi hm
    obtain ⟨m, rfl⟩ : ∃ m', m = m' + 1 := ⟨m - 1, by omega⟩
    rw [fm_size_4_s, hN, if_neg (nI_ge (by omega) (by omega)), ck_nI (n := 120) (by omega) (by decide), n31 (by omega), nI_1]
    have := ih m (i + 1) (by omega) (by omega)
    rw [mu_s] at this
    by_cases q : w.2 12 i = e
    · rw [if_pos q] at this; rw [if_neg (fun y => y q)]
      show fm_size_4 w m e (nI (mu_ (w.2 12) e i) + (1 : Int32)) (nI (i + 1)) = _
      rw [nI_1]; exact this
    · rw [if_neg q] at this; rw [if_pos q]
      show fm_size_4 w m e (nI (mu_ (w.2 12) e i) + (0 : Int32)) (nI (i + 1)) = _
      rw [Int32.add_zero]; exact this
theorem cntm_e (e : Int32) {N : Nat} (hN : w.1 1 = nI N) (hN2 : N ≤ 120) : fm_size w e = some (nI (mu_ (w.2 12) e N)) := cnt_m e hN hN2 N 200 0 (by omega) (by omega)
def maF (ev : Nat → Int32) (e t : Int32) (n : Nat) : Nat → Int32 := fun d => if d < n ∧ ev d = e then t else ev d
theorem maF_0 (ev : Nat → Int32) (e t : Int32) : maF ev e t 0 = ev := by
  funext d
  unfold maF
  rw [if_neg (fun y => by have := y.1; omega)]
theorem maF_at (ev : Nat → Int32) (e t : Int32) (n : Nat) : maF ev e t n n = ev n := by
  unfold maF
  rw [if_neg (fun y => by have := y.1; omega)]
theorem maF_n {ev : Nat → Int32} {e t : Int32} {n : Nat} (h : ev n = e) : upd (maF ev e t n) n t = maF ev e t (n + 1) := by
  funext d
  unfold upd maF
  by_cases y : d = n
  · rw [if_pos y, if_pos ⟨by omega, by rw [y]; exact h⟩]
  · rw [if_neg y]
    by_cases z : d < n ∧ ev d = e
    · rw [if_pos z, if_pos ⟨by omega, z.2⟩]
    · rw [if_neg z, if_neg (fun x => z ⟨by omega, x.2⟩)]
theorem maF_k {ev : Nat → Int32} {e t : Int32} {n : Nat} (h : ¬ ev n = e) : maF ev e t n = maF ev e t (n + 1) := by
  funext d
  unfold maF
  by_cases z : d < n ∧ ev d = e
  · rw [if_pos z, if_pos ⟨by omega, z.2⟩]
  · rw [if_neg z, if_neg (fun x => z ⟨by
      have := x.1
      rcases Nat.lt_or_ge d n with y | y
      · exact y
      · obtain rfl : d = n := by omega
        exact absurd x.2 h, x.2⟩)]
def pA (u : g_S) (k : Nat) (F : Nat → Int32) : g_S := (u.1, va_up u.2 k F)
theorem pA_k (u : g_S) (k : Nat) (F : Nat → Int32) : (pA u k F).2 k = F := by
  show va_up u.2 k F k = F
  unfold va_up
  rw [if_pos rfl]
theorem pA_o (u : g_S) (k : Nat) (F : Nat → Int32) (k' : Nat) (h : ¬ k' = k) : (pA u k F).2 k' = u.2 k' := by
  show va_up u.2 k F k' = _
  unfold va_up
  rw [if_neg h]
theorem pA_w (u : g_S) (k : Nat) (F : Nat → Int32) (i v : Int32) : g_sA (pA u k F) k i v = pA u k (upd F i.toNatClampNeg v) := by
  have h : (g_sA (pA u k F) k i v).2 = (pA u k (upd F i.toNatClampNeg v)).2 := by
    funext k'
    by_cases q : k' = k
    · rw [q, pA_k]
      funext j
      rw [rdA, pA_k]
      unfold upd
      by_cases y : j = i.toNatClampNeg
      · rw [if_pos ⟨rfl, y⟩, if_pos y]
      · rw [if_neg (fun z => y z.2), if_neg y]
    · rw [eqf_w k i v k' q, pA_o _ _ _ _ q, pA_o _ _ _ _ q]
  exact Prod.ext rfl h
theorem pA_s (u : g_S) (k : Nat) : pA u k (u.2 k) = u := by
  have h : (pA u k (u.2 k)).2 = u.2 := by
    funext k'
    by_cases q : k' = k
    · rw [q, pA_k]
    · exact pA_o _ _ _ _ q
  exact Prod.ext rfl h
theorem all_c (e t : Int32) {N : Nat} (hN : u.1 0 = nI N) (hN2 : N ≤ 120) : ∀ (j m i : Nat), i + j = N → j < m → fcA_moveAll_2 m (pA u 13 (maF (u.2 13) e t i)) e t (nI i) = some (pA u 13 (maF (u.2 13) e t N)) := by
  intro j
  induction j with
  | zero =>
    intro m i hi hm
    obtain ⟨m, rfl⟩ : ∃ m', m = m' + 1 := ⟨m - 1, by omega⟩
    obtain rfl : i = N := by omega
    rw [fcA_moveAll_2_s, show (pA u 13 (maF (u.2 13) e t i)).1 0 = nI i from hN, if_pos (nI_le (Nat.le_refl _) (by omega))]
  | succ j ih =>
    intro m i hi hm
    obtain ⟨m, rfl⟩ : ∃ m', m = m' + 1 := ⟨m - 1, by omega⟩
    rw [fcA_moveAll_2_s, show (pA u 13 (maF (u.2 13) e t i)).1 0 = nI N from hN, if_neg (nI_ge (by omega) (by omega)), ck_nI (n := 121) (by omega) (by decide), n31 (by omega), pA_k, maF_at]
    by_cases q : u.2 13 i = e
    · rw [if_neg (fun y => y q), ck_nI (n := 121) (by omega) (by decide)]
      show fcA_moveAll_2 m (g_sA (pA u 13 (maF (u.2 13) e t i)) 13 (nI i) t) e t (nI i + (1 : Int32)) = _
      rw [pA_w, n31 (by omega), maF_n q, nI_1]
      exact ih m (i + 1) (by omega) (by omega)
    · rw [if_pos q, maF_k q, nI_1]
      exact ih m (i + 1) (by omega) (by omega)
theorem all_m (e : Int32) {c N : Nat} (hc : c < 120) (hce : ¬ w.2 12 c = e) (hN : w.1 1 = nI N) (hN2 : N ≤ 120) : ∀ (j m i : Nat), i + j = N → j < m → ∃ m', 0 < m' ∧ fm_merge_115 m (pA w 12 (maF (w.2 12) e (w.2 12 c) i)) e (nI c) (nI i) = fm_merge_115 m' (pA w 12 (maF (w.2 12) e (w.2 12 c) N)) e (nI c) (nI N) := by
  have hcc : ∀ i, maF (w.2 12) e (w.2 12 c) i c = w.2 12 c := fun i => by
    unfold maF
    rw [if_neg (fun y => hce y.2)]
  intro j
  induction j with
  | zero =>
    intro m i hi hm
    obtain rfl : i = N := by omega
    exact ⟨m, by omega, rfl⟩
  | succ j ih =>
    intro m i hi hm
    obtain ⟨m, rfl⟩ : ∃ m', m = m' + 1 := ⟨m - 1, by omega⟩
    obtain ⟨m', h1, h2⟩ := ih m (i + 1) (by omega) (by omega)
    refine ⟨m', h1, ?_⟩
    rw [fm_merge_115_s, show (pA w 12 (maF (w.2 12) e (w.2 12 c) i)).1 1 = nI N from hN, if_neg (nI_ge (by omega) (by omega)), ck_nI (n := 120) (by omega) (by decide), n31 (by omega), pA_k, maF_at]
    by_cases q : w.2 12 i = e
    · rw [if_neg (fun y => y q), ck_nI hc (by decide), ck_nI (n := 120) (by omega) (by decide), n31 (by omega), hcc]
      show fm_merge_115 m (g_sA (pA w 12 (maF (w.2 12) e (w.2 12 c) i)) 12 (nI i) (w.2 12 c)) e (nI c) (nI i + (1 : Int32)) = _
      rw [pA_w, n31 (by omega), maF_n q, nI_1]
      exact h2
    · rw [if_pos q, maF_k q, nI_1]
      exact h2
end MRG
