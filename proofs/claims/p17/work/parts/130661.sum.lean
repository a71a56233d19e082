theorem bit0 (r : Int32) : (r &&& (1 : Int32)) = (1 : Int32) ↔ bt r 0 = true := by
  have h1 : ∀ i, i < 32 → bt (1 : Int32) i = decide (i = 0) := by decide +kernel
  constructor
  · intro h
    have e : bt (r &&& (1 : Int32)) 0 = true := by rw [h]; decide
    rw [b_and] at e
    exact (Bool.and_eq_true _ _ ▸ e).1
  · intro h
    refine b_ext (fun i hi => ?_)
    rw [b_and, h1 i hi]
    by_cases q : i = 0
    · rw [q, h]; decide
    · rw [decide_eq_false q, Bool.and_false]
def cbt (f : Nat → Int32) (k : Nat) (x : Int32) (b : Nat) : Int32 := if bt x b = true then f (32 * k + b) else 0
def tS (f : Nat → Int32) (k : Nat) (x : Int32) : Nat → Int32
  | 0 => 0
  | m + 1 => cbt f k x (31 - m) + tS f k x m
theorem tS_s (f : Nat → Int32) (k : Nat) (x : Int32) (m : Nat) : tS f k x (m + 1) = cbt f k x (31 - m) + tS f k x m := rfl
theorem tS_z (f : Nat → Int32) (k : Nat) (x : Int32) : ∀ m, m ≤ 32 → (∀ b, 32 - m ≤ b → b < 32 → bt x b = false) → tS f k x m = 0 := by
  intro m
  induction m with
  | zero => intro _ _; rfl
  | succ m ih =>
    intro hm h
    rw [tS_s, ih (by omega) (fun b h1 h2 => h b (by omega) h2)]
    unfold cbt
    rw [if_neg (by rw [h (31 - m) (by omega) (by omega)]; decide)]
    rfl
theorem ixm {k b : Nat} : nI k * (32 : Int32) + nI b = nI (32 * k + b) := by
  rw [show (32 : Int32) = nI 32 from rfl, pk_mul, nI_add, Nat.mul_comm]
theorem ixm2 {k b : Nat} : (32 : Int32) * nI k + nI b = nI (32 * k + b) := by
  rw [show (32 : Int32) = nI 32 from rfl, pk_mul, nI_add]
theorem weigh_S {u : g_S} {k : Nat} (hk : k < 8) (x : Int32) : ∀ (m n : Nat) (s r : Int32), m ≤ 32 → m < n → (∀ i, i < 32 → bt r i = bt x (32 - m + i)) → fcU_weigh_8 u n (nI k) s r (nI (32 - m)) = some (s + tS (u.2 4) k x m) := by
  intro m
  induction m with
  | zero =>
    intro n s r hm hn hr
    obtain ⟨n, rfl⟩ : ∃ n', n = n' + 1 := ⟨n - 1, by omega⟩
    rw [fcU_weigh_8_s, if_pos (by decide)]
    show some s = some (s + 0)
    rw [Int32.add_zero]
  | succ m ih =>
    intro n s r hm hn hr
    obtain ⟨n, rfl⟩ : ∃ n', n = n' + 1 := ⟨n - 1, by omega⟩
    have hlt : ¬ (32 : Int32) ≤ nI (32 - (m + 1)) := nI_ge (a := 32 - (m + 1)) (b := 32) (by omega) (by decide)
    rw [fcU_weigh_8_s, if_neg hlt]
    by_cases hz : r = 0
    · rw [if_pos hz, tS_z (u.2 4) k x (m + 1) hm (fun b h1 h2 => by
        have := hr (b - (32 - (m + 1))) (by omega)
        rw [hz, b_0, show 32 - (m + 1) + (b - (32 - (m + 1))) = b by omega] at this
        exact this.symm), Int32.add_zero]
    · rw [if_neg hz]
      have h0 : bt r 0 = bt x (31 - m) := by
        have := hr 0 (by omega)
        rwa [show 32 - (m + 1) + 0 = 31 - m by omega] at this
      have hi : nI (32 - (m + 1)) + (1 : Int32) = nI (32 - m) := by
        rw [nI_1, show 32 - (m + 1) + 1 = 32 - m by omega]
      have hr2 : ∀ i, i < 32 → bt ((r.toUInt32 >>> (Int32.toUInt32 (1 : Int32) &&& Int32.toUInt32 31)).toInt32) i = bt x (32 - m + i) := by
        intro i hi
        have e : bt ((r.toUInt32 >>> (Int32.toUInt32 (1 : Int32) &&& Int32.toUInt32 31)).toInt32) i = bt r (1 + i) := b_ushr 1 (by decide) r i
        rw [e]
        by_cases q : 1 + i < 32
        · rw [hr (1 + i) q, show 32 - (m + 1) + (1 + i) = 32 - m + i by omega]
        · rw [b_big (by omega), b_big (by omega)]
      by_cases hb : bt r 0 = true
      · rw [if_neg (fun q => q ((bit0 r).mpr hb))]
        rw [show (32 - (m + 1)) = 31 - m by omega, ixm, ck_nI (by omega) (by decide), nI_clamp (by omega)]
        rw [show 31 - m = 32 - (m + 1) by omega]
        show fcU_weigh_8 u n (nI k) (s + u.2 4 (32 * k + (32 - (m + 1)))) _ (nI (32 - (m + 1)) + (1 : Int32)) = _
        rw [hi, ih n _ _ (by omega) (by omega) hr2, tS_s]
        unfold cbt
        rw [if_pos (by rw [← h0]; exact hb), show 31 - m = 32 - (m + 1) by omega, Int32.add_assoc]
      · rw [if_pos (fun q => hb ((bit0 r).mp q))]
        show fcU_weigh_8 u n (nI k) s _ (nI (32 - (m + 1)) + (1 : Int32)) = _
        rw [hi, ih n _ _ (by omega) (by omega) hr2, tS_s]
        unfold cbt
        rw [if_neg (by rw [← h0]; exact hb), Int32.zero_add]
theorem sum_S {w : g_S} {k : Nat} (hk : k < 8) (x : Int32) : ∀ (m n : Nat) (s : Int32), m ≤ 32 → m < n → fm_sum_5 w n x (nI k) s (nI (32 - m)) = some (s + tS (w.2 4) k x m) := by
  intro m
  induction m with
  | zero =>
    intro n s hm hn
    obtain ⟨n, rfl⟩ : ∃ n', n = n' + 1 := ⟨n - 1, by omega⟩
    rw [fm_sum_5_s, if_pos (by decide)]
    show some s = some (s + 0)
    rw [Int32.add_zero]
  | succ m ih =>
    intro n s hm hn
    obtain ⟨n, rfl⟩ : ∃ n', n = n' + 1 := ⟨n - 1, by omega⟩
    have hlt : ¬ (32 : Int32) ≤ nI (32 - (m + 1)) := nI_ge (a := 32 - (m + 1)) (b := 32) (by omega) (by decide)
    rw [fm_sum_5_s, if_neg hlt]
    have hi : nI (32 - (m + 1)) + (1 : Int32) = nI (32 - m) := by
      rw [nI_1, show 32 - (m + 1) + 1 = 32 - m by omega]
    have h0 : bt (x >>> (nI (32 - (m + 1)) &&& 31)) 0 = bt x (31 - m) := by
      rw [b_sshr (32 - (m + 1)) (by omega) x (by decide), if_pos (by omega), show 32 - (m + 1) + 0 = 31 - m by omega]
    by_cases hb : bt x (31 - m) = true
    · rw [if_neg (fun q => q ((bit0 _).mpr (by rw [h0]; exact hb)))]
      rw [show (32 - (m + 1)) = 31 - m by omega, ixm2, ck_nI (by omega) (by decide), nI_clamp (by omega)]
      rw [show 31 - m = 32 - (m + 1) by omega]
      show fm_sum_5 w n x (nI k) (s + w.2 4 (32 * k + (32 - (m + 1)))) (nI (32 - (m + 1)) + (1 : Int32)) = _
      rw [hi, ih n _ (by omega) (by omega), tS_s]
      unfold cbt
      rw [if_pos hb, show 31 - m = 32 - (m + 1) by omega, Int32.add_assoc]
    · rw [if_pos (fun q => hb (by rw [← h0]; exact (bit0 _).mp q))]
      show fm_sum_5 w n x (nI k) (s + (0 : Int32)) (nI (32 - (m + 1)) + (1 : Int32)) = _
      rw [hi, ih n _ (by omega) (by omega), tS_s, Int32.add_zero]
      unfold cbt
      rw [if_neg hb, Int32.zero_add]
def wS (f : Nat → Int32) (k : Nat) (x : Int32) : Int32 := tS f k x 32
theorem weigh_e {u : g_S} {k : Nat} (hk : k < 8) (x : Int32) : fcU_weigh u (nI k) x = some (wS (u.2 4) k x) := by
  have h := weigh_S (u := u) hk x 32 200 0 x (Nat.le_refl _) (by decide) (fun i _ => by rw [show 32 - 32 + i = i by omega])
  rw [Int32.zero_add] at h
  exact h
theorem sum_e {w : g_S} {k : Nat} (hk : k < 8) (x : Int32) : fm_sum w x (nI k) = some (wS (w.2 4) k x) := by
  have h := sum_S (w := w) hk x 32 200 0 (Nat.le_refl _) (by decide)
  rw [Int32.zero_add] at h
  exact h
