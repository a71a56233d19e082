def loC (k : Nat) : Int := match k with | 5 => 0 | 8 => 0 | 13 => 0 | 14 => -1 | 19 => -1 | 20 => -1 | 21 => 0 | 22 => 0 | _ => -2147483648
def hiC (k : Nat) : Int := match k with | 5 => 8 | 8 => 7 | 13 => 59 | 14 => 120 | 19 => 120 | 20 => 7 | 21 => 7 | 22 => 7 | _ => 2147483647
def FSc (u : g_S) : Prop := ∀ e : Nat, (¬ u.2 17 e = 3 ∨ (u.1 1).toInt ≤ e) → 0 ≤ (u.2 19 e).toInt
def IC (g : Nat → Int32) (u : g_S) : Prop := (0 ≤ (u.1 0).toInt ∧ (u.1 0).toInt ≤ 120 ∧ 0 ≤ (u.1 1).toInt ∧ (u.1 1).toInt ≤ 60) ∧ (∀ k j : Nat, loC k ≤ (u.2 k j).toInt ∧ (u.2 k j).toInt ≤ hiC k) ∧ FSc u ∧ ∀ j, u.2 5 j = g j
def rg_ok (lo hi : Nat → Int) (u : g_S) : Prop := ∀ k j : Nat, lo k ≤ (u.2 k j).toInt ∧ (u.2 k j).toInt ≤ hi k
section ICR
variable {g : Nat → Int32} {u : g_S}
theorem IC_s (I : IC g u) : 0 ≤ (u.1 0).toInt ∧ (u.1 0).toInt ≤ 120 ∧ 0 ≤ (u.1 1).toInt ∧ (u.1 1).toInt ≤ 60 := I.1
theorem IC_r (I : IC g u) (k j : Nat) : loC k ≤ (u.2 k j).toInt ∧ (u.2 k j).toInt ≤ hiC k := I.2.1 k j
theorem IC_f (I : IC g u) (e : Nat) (h : ¬ u.2 17 e = 3 ∨ (u.1 1).toInt ≤ e) : 0 ≤ (u.2 19 e).toInt := I.2.2.1 e h
theorem IC_g (I : IC g u) (j : Nat) : u.2 5 j = g j := I.2.2.2 j
theorem rg_w {lo hi : Nat → Int} (h : ∀ k j : Nat, lo k ≤ (u.2 k j).toInt ∧ (u.2 k j).toInt ≤ hi k) (k : Nat) (i v : Int32) (h1 : lo k ≤ v.toInt) (h2 : v.toInt ≤ hi k) : ∀ k' j : Nat, lo k' ≤ ((g_sA u k i v).2 k' j).toInt ∧ ((g_sA u k i v).2 k' j).toInt ≤ hi k' := fun k' j => by
  rw [rdA]
  by_cases q : k' = k ∧ j = i.toNatClampNeg
  · rw [if_pos q, q.1]; exact ⟨h1, h2⟩
  · rw [if_neg q]; exact h k' j
theorem eq_w (k : Nat) (i v : Int32) (k' j : Nat) (h : ¬ k' = k) : (g_sA u k i v).2 k' j = u.2 k' j := by rw [rdA, if_neg (fun q => h q.1)]
theorem IC_w (I : IC g u) (k : Nat) (i v : Int32) (h1 : loC k ≤ v.toInt) (h2 : v.toInt ≤ hiC k) (hk : ¬ 17 = k ∧ ¬ 19 = k ∧ ¬ 5 = k) : IC g (g_sA u k i v) :=
  ⟨I.1, rg_w I.2.1 k i v h1 h2, fun e h => by rw [eq_w k i v 19 e hk.2.1]; rw [eq_w k i v 17 e hk.1] at h; exact IC_f I e h, fun j => by rw [eq_w k i v 5 j hk.2.2]; exact IC_g I j⟩
theorem IC_wx (I : IC g u) (k : Nat) (i v : Int32) (h1 : loC k = -2147483648) (h2 : hiC k = 2147483647) (hk : ¬ 17 = k ∧ ¬ 19 = k ∧ ¬ 5 = k) : IC g (g_sA u k i v) :=
  IC_w I k i v (by rw [h1]; exact oi_lo v) (by rw [h2]; exact oi_hi v) hk
theorem IC_w17 (I : IC g u) (i v : Int32) (h : 0 ≤ (u.2 19 i.toNatClampNeg).toInt) : IC g (g_sA u 17 i v) :=
  ⟨I.1, rg_w I.2.1 17 i v (oi_lo v) (oi_hi v), fun e q => by
    rw [eq_w 17 i v 19 e (by decide)]; rw [rdA] at q
    by_cases z : e = i.toNatClampNeg
    · rw [z]; exact h
    · rw [if_neg (fun y => z y.2)] at q; exact IC_f I e q, fun j => by rw [eq_w 17 i v 5 j (by decide)]; exact IC_g I j⟩
theorem IC_w17m (I : IC g u) (i : Int32) (h : (i.toNatClampNeg : Int) < (u.1 1).toInt) : IC g (g_sA u 17 i 3) :=
  ⟨I.1, rg_w I.2.1 17 i 3 (oi_lo 3) (oi_hi 3), fun e q => by
    rw [eq_w 17 i 3 19 e (by decide)]; rw [rdA] at q
    by_cases z : e = i.toNatClampNeg
    · rw [if_pos ⟨rfl, z⟩] at q
      rcases q with q | q
      · exact absurd rfl q
      · rw [z, rdA_i] at q; omega
    · rw [if_neg (fun y => z y.2)] at q; exact IC_f I e q, fun j => by rw [eq_w 17 i 3 5 j (by decide)]; exact IC_g I j⟩
theorem IC_w19 (I : IC g u) (i v : Int32) (h1 : 0 ≤ v.toInt) (h2 : v.toInt ≤ 120) : IC g (g_sA u 19 i v) :=
  ⟨I.1, rg_w I.2.1 19 i v (Int.le_trans (by decide) h1) h2, fun e q => by
    rw [rdA]; rw [eq_w 19 i v 17 e (by decide)] at q
    by_cases z : 19 = 19 ∧ e = i.toNatClampNeg
    · rw [if_pos z]; exact h1
    · rw [if_neg z]; exact IC_f I e q, fun j => by rw [eq_w 19 i v 5 j (by decide)]; exact IC_g I j⟩
theorem IC_w19m (I : IC g u) (i v : Int32) (h1 : -1 ≤ v.toInt) (h2 : v.toInt ≤ 120) (h3 : u.2 17 i.toNatClampNeg = 3) (h : (i.toNatClampNeg : Int) < (u.1 1).toInt) : IC g (g_sA u 19 i v) :=
  ⟨I.1, rg_w I.2.1 19 i v h1 h2, fun e q => by
    rw [rdA]; rw [eq_w 19 i v 17 e (by decide), rdA_i] at q
    by_cases z : 19 = 19 ∧ e = i.toNatClampNeg
    · rw [z.2] at q
      rcases q with q | q
      · exact absurd h3 q
      · omega
    · rw [if_neg z]; exact IC_f I e q, fun j => by rw [eq_w 19 i v 5 j (by decide)]; exact IC_g I j⟩
theorem IC_w5 (I : IC g u) (i v : Int32) (h1 : 0 ≤ v.toInt) (h2 : v.toInt ≤ 8) : IC (upd g i.toNatClampNeg v) (g_sA u 5 i v) :=
  ⟨I.1, rg_w I.2.1 5 i v h1 h2, fun e q => by rw [eq_w 5 i v 19 e (by decide)]; rw [eq_w 5 i v 17 e (by decide)] at q; exact IC_f I e q, fun j => by
    rw [rdA]; unfold upd
    by_cases z : j = i.toNatClampNeg
    · rw [if_pos ⟨rfl, z⟩, if_pos z]
    · rw [if_neg (fun y => z y.2), if_neg z]; exact IC_g I j⟩
theorem IC_i0 (I : IC g u) (v : Int32) (h1 : 0 ≤ v.toInt) (h2 : v.toInt ≤ 120) : IC g (g_sI u 0 v) :=
  ⟨⟨h1, h2, I.1.2.2⟩, I.2.1, fun e q => IC_f I e q, I.2.2.2⟩
theorem IC_i1 (I : IC g u) (v : Int32) (h1 : (u.1 1).toInt ≤ v.toInt) (h2 : v.toInt ≤ 60) : IC g (g_sI u 1 v) :=
  ⟨⟨I.1.1, I.1.2.1, Int.le_trans I.1.2.2.1 h1, h2⟩, I.2.1, fun e q => IC_f I e (q.imp id (fun z => Int.le_trans h1 z)), I.2.2.2⟩
end ICR
def loM (k : Nat) : Int := match k with | 5 => 0 | 8 => 0 | 12 => 0 | 13 => -1 | 17 => -1 | 18 => 0 | 19 => 0 | _ => -2147483648
def hiM (k : Nat) : Int := match k with | 5 => 8 | 8 => 7 | 12 => 59 | 13 => 119 | 17 => 7 | 18 => 7 | 19 => 7 | _ => 2147483647
def FWm (u : g_S) : Prop := (∀ e : Nat, (e : Int) < (u.1 2).toInt → ¬ u.2 16 e = 3 → ∃ c : Nat, (c : Int) < (u.1 1).toInt ∧ (u.2 12 c).toInt = e ∧ (u.2 13 c).toInt < 0) ∧ ∀ c : Nat, (c : Int) < (u.1 1).toInt → (u.2 12 c).toInt < (u.1 2).toInt
def IM (g : Nat → Int32) (u : g_S) : Prop := (0 ≤ (u.1 1).toInt ∧ (u.1 1).toInt ≤ 120 ∧ 0 ≤ (u.1 2).toInt ∧ (u.1 2).toInt ≤ 60) ∧ (∀ k j : Nat, loM k ≤ (u.2 k j).toInt ∧ (u.2 k j).toInt ≤ hiM k) ∧ FWm u ∧ ∀ j, u.2 5 j = g j
section IMR
variable {g : Nat → Int32} {u : g_S}
theorem IM_s (I : IM g u) : 0 ≤ (u.1 1).toInt ∧ (u.1 1).toInt ≤ 120 ∧ 0 ≤ (u.1 2).toInt ∧ (u.1 2).toInt ≤ 60 := I.1
theorem IM_r (I : IM g u) (k j : Nat) : loM k ≤ (u.2 k j).toInt ∧ (u.2 k j).toInt ≤ hiM k := I.2.1 k j
theorem IM_f (I : IM g u) (e : Nat) (he : (e : Int) < (u.1 2).toInt) (h : ¬ u.2 16 e = 3) : ∃ c : Nat, (c : Int) < (u.1 1).toInt ∧ (u.2 12 c).toInt = e ∧ (u.2 13 c).toInt < 0 := I.2.2.1.1 e he h
theorem IM_e (I : IM g u) (c : Nat) (h : (c : Int) < (u.1 1).toInt) : (u.2 12 c).toInt < (u.1 2).toInt := I.2.2.1.2 c h
theorem IM_g (I : IM g u) (j : Nat) : u.2 5 j = g j := I.2.2.2 j
theorem IM_mk (I : IM g u) (k : Nat) (i v : Int32) (h1 : loM k ≤ v.toInt) (h2 : v.toInt ≤ hiM k) (h5 : ¬ 5 = k)
    (hs : ∀ e : Nat, (e : Int) < (u.1 2).toInt → ¬ (g_sA u k i v).2 16 e = 3 → ¬ u.2 16 e = 3)
    (hw : ∀ c : Nat, (c : Int) < (u.1 1).toInt → (u.2 13 c).toInt < 0 → (g_sA u k i v).2 12 c = u.2 12 c ∧ ((g_sA u k i v).2 13 c).toInt < 0)
    (he : ∀ c : Nat, (c : Int) < (u.1 1).toInt → ((g_sA u k i v).2 12 c).toInt < (u.1 2).toInt) : IM g (g_sA u k i v) := by
  refine ⟨I.1, rg_w I.2.1 k i v h1 h2, ⟨fun e q z => ?_, fun c q => he c q⟩, fun j => by rw [eq_w k i v 5 j h5]; exact IM_g I j⟩
  obtain ⟨c, a1, a2, a3⟩ := IM_f I e q (hs e q z)
  obtain ⟨b1, b2⟩ := hw c a1 a3
  exact ⟨c, a1, by rw [b1]; exact a2, b2⟩
theorem IM_w (I : IM g u) (k : Nat) (i v : Int32) (h1 : loM k ≤ v.toInt) (h2 : v.toInt ≤ hiM k) (hk : ¬ 16 = k ∧ ¬ 12 = k ∧ ¬ 13 = k ∧ ¬ 5 = k) : IM g (g_sA u k i v) :=
  IM_mk I k i v h1 h2 hk.2.2.2 (fun e _ z => by rw [eq_w k i v 16 e hk.1] at z; exact z) (fun c _ z => ⟨eq_w k i v 12 c hk.2.1, by rw [eq_w k i v 13 c hk.2.2.1]; exact z⟩) (fun c z => by rw [eq_w k i v 12 c hk.2.1]; exact IM_e I c z)
theorem IM_wx (I : IM g u) (k : Nat) (i v : Int32) (h1 : loM k = -2147483648) (h2 : hiM k = 2147483647) (hk : ¬ 16 = k ∧ ¬ 12 = k ∧ ¬ 13 = k ∧ ¬ 5 = k) : IM g (g_sA u k i v) :=
  IM_w I k i v (by rw [h1]; exact oi_lo v) (by rw [h2]; exact oi_hi v) hk
theorem IM_w16 (I : IM g u) (i v : Int32) (h : v = 3 ∨ ¬ u.2 16 i.toNatClampNeg = 3) : IM g (g_sA u 16 i v) := by
  refine IM_mk I 16 i v (oi_lo v) (oi_hi v) (by decide) (fun e he q => ?_) (fun c _ z => ⟨eq_w 16 i v 12 c (by decide), by rw [eq_w 16 i v 13 c (by decide)]; exact z⟩) (fun c z => by rw [eq_w 16 i v 12 c (by decide)]; exact IM_e I c z)
  rw [rdA] at q
  by_cases z : e = i.toNatClampNeg
  · rw [if_pos ⟨rfl, z⟩] at q
    rcases h with h | h
    · exact absurd h q
    · rw [z]; exact h
  · rw [if_neg (fun y => z y.2)] at q; exact q
theorem IM_w16b (I : IM g u) (i v : Int32) (h : (u.1 2).toInt ≤ (i.toNatClampNeg : Int)) : IM g (g_sA u 16 i v) := by
  refine IM_mk I 16 i v (oi_lo v) (oi_hi v) (by decide) (fun e he q => ?_) (fun c _ z => ⟨eq_w 16 i v 12 c (by decide), by rw [eq_w 16 i v 13 c (by decide)]; exact z⟩) (fun c z => by rw [eq_w 16 i v 12 c (by decide)]; exact IM_e I c z)
  rw [rdA, if_neg (fun y => by have := y.2; omega)] at q; exact q
theorem IM_w13b (I : IM g u) (i v : Int32) (h1 : -1 ≤ v.toInt) (h2 : v.toInt ≤ 119) (h : (u.1 1).toInt ≤ (i.toNatClampNeg : Int)) : IM g (g_sA u 13 i v) := by
  refine IM_mk I 13 i v h1 h2 (by decide) (fun e _ q => by rw [eq_w 13 i v 16 e (by decide)] at q; exact q) (fun c hc z => ⟨eq_w 13 i v 12 c (by decide), ?_⟩) (fun c z => by rw [eq_w 13 i v 12 c (by decide)]; exact IM_e I c z)
  rw [rdA, if_neg (fun y => by have := y.2; omega)]; exact z
theorem IM_w12b (I : IM g u) (i v : Int32) (h1 : 0 ≤ v.toInt) (h2 : v.toInt ≤ 59) (h : (u.1 1).toInt ≤ (i.toNatClampNeg : Int)) : IM g (g_sA u 12 i v) := by
  have k : ∀ c : Nat, (c : Int) < (u.1 1).toInt → (g_sA u 12 i v).2 12 c = u.2 12 c := fun c hc => by rw [rdA, if_neg (fun y => by have := y.2; omega)]
  exact IM_mk I 12 i v h1 h2 (by decide) (fun e _ q => by rw [eq_w 12 i v 16 e (by decide)] at q; exact q) (fun c hc z => ⟨k c hc, by rw [eq_w 12 i v 13 c (by decide)]; exact z⟩) (fun c z => by rw [k c z]; exact IM_e I c z)
theorem IM_w12c (I : IM g u) (i v : Int32) (h1 : 0 ≤ v.toInt) (h2 : v.toInt ≤ 59) (h3 : v.toInt < (u.1 2).toInt) (h : 0 ≤ (u.2 13 i.toNatClampNeg).toInt) : IM g (g_sA u 12 i v) := by
  refine IM_mk I 12 i v h1 h2 (by decide) (fun e _ q => by rw [eq_w 12 i v 16 e (by decide)] at q; exact q) (fun c hc z => ⟨?_, by rw [eq_w 12 i v 13 c (by decide)]; exact z⟩) (fun c z => ?_)
  · rw [rdA, if_neg (fun y => by rw [y.2] at z; omega)]
  · rw [rdA]
    by_cases y : 12 = 12 ∧ c = i.toNatClampNeg
    · rw [if_pos y]; exact h3
    · rw [if_neg y]; exact IM_e I c z
theorem IM_w5 (I : IM g u) (i v : Int32) (h1 : 0 ≤ v.toInt) (h2 : v.toInt ≤ 8) : IM (upd g i.toNatClampNeg v) (g_sA u 5 i v) := by
  refine ⟨I.1, rg_w I.2.1 5 i v h1 h2, ⟨fun e he q => ?_, fun c q => ?_⟩, fun j => ?_⟩
  · rw [eq_w 5 i v 16 e (by decide)] at q
    obtain ⟨c, a1, a2, a3⟩ := IM_f I e he q
    exact ⟨c, a1, by rw [eq_w 5 i v 12 c (by decide)]; exact a2, by rw [eq_w 5 i v 13 c (by decide)]; exact a3⟩
  · rw [eq_w 5 i v 12 c (by decide)]; exact IM_e I c q
  · rw [rdA]; unfold upd
    by_cases z : j = i.toNatClampNeg
    · rw [if_pos ⟨rfl, z⟩, if_pos z]
    · rw [if_neg (fun y => z y.2), if_neg z]; exact IM_g I j
theorem IM_ix (I : IM g u) {k : Nat} (v : Int32) (hk : ¬ 1 = k ∧ ¬ 2 = k) : IM g (g_sI u k v) := by
  have e1 : (g_sI u k v).1 1 = u.1 1 := by rw [rdI, if_neg hk.1]
  have e2 : (g_sI u k v).1 2 = u.1 2 := by rw [rdI, if_neg hk.2]
  refine ⟨by rw [e1, e2]; exact I.1, I.2.1, ⟨fun e he q => ?_, fun c q => ?_⟩, I.2.2.2⟩
  · rw [e2] at he
    obtain ⟨c, a1, a2, a3⟩ := IM_f I e he q
    exact ⟨c, by rw [e1]; exact a1, a2, a3⟩
  · rw [e1] at q; rw [e2]; exact IM_e I c q
theorem IM_i1u (I : IM g u) (v : Int32) (h1 : v.toInt = (u.1 1).toInt + 1) (h2 : (u.1 1).toInt ≤ 119) (h3 : ∀ c : Nat, (c : Int) = (u.1 1).toInt → (u.2 12 c).toInt < (u.1 2).toInt) : IM g (g_sI u 1 v) := by
  have hs := IM_s I
  have e1 : ((g_sI u 1 v).1 1).toInt = (u.1 1).toInt + 1 := h1
  refine ⟨⟨by omega, by omega, hs.2.2.1, hs.2.2.2⟩, I.2.1, ⟨fun e he q => ?_, fun c q => ?_⟩, I.2.2.2⟩
  · obtain ⟨c, a1, a2, a3⟩ := IM_f I e he q
    exact ⟨c, by omega, a2, a3⟩
  · by_cases z : (c : Int) = (u.1 1).toInt
    · exact h3 c z
    · exact IM_e I c (by omega)
end IMR
theorem okk_isBelow {α : Type} {a b : Int32} {k : Int32 → Option α} {Q : α → Prop} (h1 : 0 ≤ a.toInt ∧ a.toInt < b.toInt → okk (k 1) Q) (h2 : a.toInt < 0 ∨ b.toInt ≤ a.toInt → okk (k 0) Q) : okk ((fcJ_isBelow a b).bind k) Q := by
  have z : (0 : Int32).toInt = 0 := by decide
  unfold fcJ_isBelow
  by_cases c1 : a < 0
  · rw [if_pos c1]; exact h2 (Or.inl (by have := Int32.lt_iff_toInt_lt.mp c1; omega))
  · rw [if_neg c1]
    by_cases c2 : b ≤ a
    · rw [if_pos c2]; exact h2 (Or.inr (Int32.le_iff_toInt_le.mp c2))
    · rw [if_neg c2]
      refine h1 ⟨?_, ?_⟩
      · have := mt Int32.lt_iff_toInt_lt.mpr c1; omega
      · have := mt Int32.le_iff_toInt_le.mpr c2; omega
theorem fm_in_1 {a b c : Int32} (h : b.toInt ≤ a.toInt ∧ a.toInt ≤ c.toInt) : fm_in a b c = some 1 := by
  unfold fm_in
  rw [if_neg (fun q => by have := Int32.lt_iff_toInt_lt.mp q; omega), if_neg (fun q => by have := Int32.lt_iff_toInt_lt.mp q; omega)]
theorem fm_in_0 {a b c : Int32} (h : ¬ (b.toInt ≤ a.toInt ∧ a.toInt ≤ c.toInt)) : fm_in a b c = some 0 := by
  unfold fm_in
  by_cases c1 : a < b
  · rw [if_pos c1]
  · rw [if_neg c1, if_pos (Int32.lt_iff_toInt_lt.mpr (by have := mt Int32.lt_iff_toInt_lt.mpr c1; omega))]
theorem okk_in {α : Type} {a b c : Int32} {k : Int32 → Option α} {Q : α → Prop} (h1 : b.toInt ≤ a.toInt ∧ a.toInt ≤ c.toInt → okk (k 1) Q) (h2 : a.toInt < b.toInt ∨ c.toInt < a.toInt → okk (k 0) Q) : okk ((fm_in a b c).bind k) Q := by
  by_cases h : b.toInt ≤ a.toInt ∧ a.toInt ≤ c.toInt
  · rw [fm_in_1 h]; exact h1 h
  · rw [fm_in_0 h]; exact h2 (by omega)
theorem okk_inB {α : Type} {o : Option Int32} {a b c : Int32} {k : Int32 → Option α} {Q : α → Prop} (e : o = (fm_in a b c).bind fun v1 => if v1 = 0 ∨ v1 = 1 then some v1 else none) (h1 : b.toInt ≤ a.toInt ∧ a.toInt ≤ c.toInt → okk (k 1) Q) (h2 : a.toInt < b.toInt ∨ c.toInt < a.toInt → okk (k 0) Q) : okk (o.bind k) Q := by
  rw [e]
  by_cases h : b.toInt ≤ a.toInt ∧ a.toInt ≤ c.toInt
  · rw [fm_in_1 h]; exact h1 h
  · rw [fm_in_0 h]; exact h2 (by omega)
theorem okk_isKind {α : Type} {a : Int32} {k : Int32 → Option α} {Q : α → Prop} (h1 : 0 ≤ a.toInt ∧ a.toInt ≤ 7 → okk (k 1) Q) (h2 : a.toInt < 0 ∨ 7 < a.toInt → okk (k 0) Q) : okk ((fm_isKind a).bind k) Q := okk_inB (o := fm_isKind a) rfl h1 h2
theorem okk_isRoad {α : Type} {a : Int32} {k : Int32 → Option α} {Q : α → Prop} (h1 : 0 ≤ a.toInt ∧ a.toInt ≤ 7 → okk (k 1) Q) (h2 : a.toInt < 0 ∨ 7 < a.toInt → okk (k 0) Q) : okk ((fm_isRoad a).bind k) Q := okk_inB (o := fm_isRoad a) rfl h1 h2
theorem okk_isPoint {α : Type} {a : Int32} {k : Int32 → Option α} {Q : α → Prop} (h1 : 0 ≤ a.toInt ∧ a.toInt ≤ 99999999 → okk (k 1) Q) (h2 : a.toInt < 0 ∨ 99999999 < a.toInt → okk (k 0) Q) : okk ((fm_isPoint a).bind k) Q := okk_inB (o := fm_isPoint a) rfl h1 h2
theorem okk_isCall {α : Type} {u : g_S} {a : Int32} {k : Int32 → Option α} {Q : α → Prop} (h1 : 0 ≤ a.toInt ∧ a.toInt ≤ ((u.1 1) - (1 : Int32)).toInt → okk (k 1) Q) (h2 : a.toInt < 0 ∨ ((u.1 1) - (1 : Int32)).toInt < a.toInt → okk (k 0) Q) : okk ((fm_isCall u a).bind k) Q := okk_inB (o := fm_isCall u a) rfl h1 h2
theorem okk_isEvent {α : Type} {u : g_S} {a : Int32} {k : Int32 → Option α} {Q : α → Prop} (h1 : 0 ≤ a.toInt ∧ a.toInt ≤ ((u.1 2) - (1 : Int32)).toInt → okk (k 1) Q) (h2 : a.toInt < 0 ∨ ((u.1 2) - (1 : Int32)).toInt < a.toInt → okk (k 0) Q) : okk ((fm_isEvent u a).bind k) Q := okk_inB (o := fm_isEvent u a) rfl h1 h2
theorem fm_t26 (u : g_S) (y : Int32) : fm_throwing_26 u y = if y ≤ 0 then some ((0 : Int32), g_sI u 0 y) else some ((1 : Int32), g_sI u 0 y) := rfl
theorem fm_t26a (u : g_S) (y : Int32) (h : ¬ y ≤ 0) : fm_throwing_26 u y = some ((1 : Int32), g_sI u 0 y) := by rw [fm_t26, if_neg h]
theorem fm_t26b (u : g_S) (y : Int32) (h : y ≤ 0) : fm_throwing_26 u y = some ((0 : Int32), g_sI u 0 y) := by rw [fm_t26, if_pos h]
theorem fm_thr_1 (u : g_S) (y z : Int32) : fm_throwing u 1 y z = some ((1 : Int32), g_sI u 0 1) := by unfold fm_throwing; rw [if_neg (by decide)]; exact fm_t26a u 1 (by decide)
theorem fm_thr_2 (u : g_S) (z : Int32) : fm_throwing u 0 1 z = some ((1 : Int32), g_sI u 0 2) := by unfold fm_throwing; rw [if_pos rfl, if_neg (by decide)]; exact fm_t26a u 2 (by decide)
theorem fm_thr_3 (u : g_S) : fm_throwing u 0 0 1 = some ((1 : Int32), g_sI u 0 3) := by unfold fm_throwing; rw [if_pos rfl, if_pos rfl, if_neg (by decide)]; exact fm_t26a u 3 (by decide)
theorem fm_thr_0 (u : g_S) : fm_throwing u 0 0 0 = some ((0 : Int32), g_sI u 0 0) := by unfold fm_throwing; rw [if_pos rfl, if_pos rfl, if_pos rfl]; exact fm_t26b u 0 (by decide)
