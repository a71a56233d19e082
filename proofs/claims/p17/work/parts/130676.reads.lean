section RDK
variable {g : Nat → Int32} {u w : g_S}
theorem ag2 (R : RA u w) (S : RS u) (I : IC g u) {c d : Nat} (hc : (c : Int) < (u.1 0).toInt) (hd : (d : Int) < (u.1 0).toInt) : ∃ v, fcJ_agreement u (nI c) (nI d) = some v ∧ fm_meets w (nI c) (w.2 8 d) (w.2 9 d) (w.2 10 d) (w.2 11 d) = some v := by
  have z := IC_s I
  obtain ⟨k, hk8, hk⟩ := kd_of I d
  obtain ⟨q7, q8, q9, q10, q12, -⟩ := R.2.2.2.1 c hc
  obtain ⟨r7, r8, r9, r10, r12, -⟩ := R.2.2.2.1 d hd
  obtain ⟨s12, s9, -⟩ := S.2.1 c hc
  obtain ⟨t12, t9, -⟩ := S.2.1 d hd
  have e1 := agr_c (u := u) (c := c) (d := d) (k := k) (by omega) (by omega) hk hk8
  have e2 := agr_m (w := w) (c := c) (k := k) (p := u.2 9 d) (x := u.2 10 d) (t := u.2 12 d) (by omega) hk8 t12 (by rw [← q12]; exact s12) t9 (by rw [← q9]; exact s9)
  rw [← q9, ← q10, ← q12, ← RA_k R 0 (by decide), ← RA_k R 1 (by decide), ← RA_k R 2 (by decide), ← RA_k R 3 (by decide), ← RA_k R 4 (by decide)] at e2
  rw [← r8, ← r9, ← r10, ← r12, hk]
  exact ⟨_, e1, e2⟩
theorem lk_agree (R : RA u w) (S : RS u) (I : IC g u) (J : IM g w) (p1 p2 : Int32) : ∃ rv rz, fcJ_agree u p1 p2 = some rv ∧ fm_agree w p1 p2 = some rz ∧ RA u rz.2 ∧ rz.2.1 0 = lwc [1] rv.1 ∧ (rv.1 = 0 → rv.2 = rz.1) := by
  have z := IC_s I
  by_cases h : (0 ≤ p1.toInt ∧ p1.toInt < (u.1 0).toInt) ∧ (0 ≤ p2.toInt ∧ p2.toInt < (u.1 0).toInt) ∧ ¬ p1 = p2
  · obtain ⟨h1, h2, h3⟩ := h
    obtain ⟨a, ha, ha2, ha3⟩ := nat_of h1
    obtain ⟨b, hb, hb2, hb3⟩ := nat_of h2
    have hab : ¬ a = b := fun q => h3 (by rw [ha, hb, q])
    have E2a : fm_agree w p1 p2 = if p2 ≤ p1 then fm_agree_57 (g_sI w 0 0) p1 p2 p2 else fm_agree_57 (g_sI w 0 0) p1 p2 p1 := by
      unfold fm_agree
      rw [bi_s (isc1 J (by rw [← RA_z R]; exact h1)), if_neg (by decide), bi_s (isc1 J (by rw [← RA_z R]; exact h2)), if_neg (by decide), if_neg h3]
      unfold fm_agree_26
      rw [if_pos (by decide)]
      unfold fm_agree_37
      rw [bi_s (fm_thr_0 w)]
      dsimp only
      rw [if_pos rfl]
    have n120 : ∀ {c : Nat}, (c : Int) < (u.1 0).toInt → c < 120 := fun hc => by omega
    rcases Nat.lt_or_ge a b with q | q
    · obtain ⟨v, e1, e2⟩ := ag2 R S I ha2 hb2
      have E1 : fcJ_agree u p1 p2 = some (0, v) := by
        unfold fcJ_agree
        rw [bi_s (two_c1 h1 h2 h3), if_pos rfl, ha, hb, if_neg (fun y => by have := (nI_ltI hb3 ha3).mp y; omega), if_pos ((nI_ltI ha3 hb3).mpr q), bi_s e1]
      have E2 : fm_agree w p1 p2 = some (v, g_sI w 0 0) := by
        rw [E2a, ha, hb, if_neg (fun y => by have := (nI_leI hb3 ha3).mp y; omega)]
        unfold fm_agree_57
        rw [gl_r, Int32.add_comm (nI a) (nI b), Int32.add_sub_cancel, ck_nI (n120 hb2) (by decide), ck_nI (n120 hb2) (by decide), ck_nI (n120 hb2) (by decide), ck_nI (n120 hb2) (by decide), n31 (by have := n120 hb2; omega)]
        have e3 : fm_meets (g_sI w 0 0) (nI a) ((g_sI w 0 0).2 8 b) ((g_sI w 0 0).2 9 b) ((g_sI w 0 0).2 10 b) ((g_sI w 0 0).2 11 b) = some v := by
          obtain ⟨v', e1', e2'⟩ := ag2 (w := g_sI w 0 0) (RA_0 R 0) S I ha2 hb2
          rw [e2', some_u e1' e1]
        rw [bi_s e3]
      exact ⟨_, _, E1, E2, RA_0 R 0, by show (0 : Int32) = lwc [1] 0; decide, fun _ => rfl⟩
    · obtain ⟨v, e1, e2⟩ := ag2 R S I hb2 ha2
      have E1 : fcJ_agree u p1 p2 = some (0, v) := by
        unfold fcJ_agree
        rw [bi_s (two_c1 h1 h2 h3), if_pos rfl, ha, hb, if_pos ((nI_ltI hb3 ha3).mpr (by omega)), if_neg (fun y => by have := (nI_ltI ha3 hb3).mp y; omega), bi_s e1]
      have E2 : fm_agree w p1 p2 = some (v, g_sI w 0 0) := by
        rw [E2a, ha, hb, if_pos ((nI_leI hb3 ha3).mpr q)]
        unfold fm_agree_57
        rw [gl_r, Int32.add_sub_cancel, ck_nI (n120 ha2) (by decide), ck_nI (n120 ha2) (by decide), ck_nI (n120 ha2) (by decide), ck_nI (n120 ha2) (by decide), n31 (by have := n120 ha2; omega)]
        have e3 : fm_meets (g_sI w 0 0) (nI b) ((g_sI w 0 0).2 8 a) ((g_sI w 0 0).2 9 a) ((g_sI w 0 0).2 10 a) ((g_sI w 0 0).2 11 a) = some v := by
          obtain ⟨v', e1', e2'⟩ := ag2 (w := g_sI w 0 0) (RA_0 R 0) S I hb2 ha2
          rw [e2', some_u e1' e1]
        rw [bi_s e3]
      exact ⟨_, _, E1, E2, RA_0 R 0, by show (0 : Int32) = lwc [1] 0; decide, fun _ => rfl⟩
  · have E1 : fcJ_agree u p1 p2 = some (1, (0 : Int32)) := by
      unfold fcJ_agree
      rw [bi_s (two_c0 h), if_neg (by decide)]
    have h26 : fm_agree_26 w p1 p2 (0 : Int32) = some ((0 : Int32), g_sI w 0 1) := by
      unfold fm_agree_26
      rw [if_neg (fun q => q rfl)]
      unfold fm_agree_37
      rw [bi_s (fm_thr_1 w 0 0)]
      dsimp only
      rw [if_neg (by decide)]
    have E2 : fm_agree w p1 p2 = some ((0 : Int32), g_sI w 0 1) := by
      rw [RA_z R] at h
      unfold fm_agree
      by_cases h1 : 0 ≤ p1.toInt ∧ p1.toInt < (w.1 1).toInt
      · rw [bi_s (isc1 J h1), if_neg (by decide)]
        by_cases h2 : 0 ≤ p2.toInt ∧ p2.toInt < (w.1 1).toInt
        · rw [bi_s (isc1 J h2), if_neg (by decide)]
          by_cases h3 : p1 = p2
          · rw [if_pos h3]; exact h26
          · exact absurd ⟨h1, h2, h3⟩ h
        · rw [bi_s (isc0 J h2), if_pos rfl]; exact h26
      · rw [bi_s (isc0 J h1), if_pos rfl]; exact h26
    exact ⟨_, _, E1, E2, RA_0 R 1, by show (1 : Int32) = lwc [1] 1; decide, fun q => by simp at q⟩
theorem lk_share (R : RA u w) (S : RS u) (I : IC g u) (J : IM g w) (p1 p2 : Int32) : ∃ rv rz, fcJ_share u p1 p2 = some rv ∧ fm_share w p1 p2 = some rz ∧ RA u rz.2 ∧ rz.2.1 0 = lwc [1, 5] rv.1 ∧ (rv.1 = 0 → rv.2 = rz.1) := by
  have z := IC_s I
  by_cases h : (0 ≤ p1.toInt ∧ p1.toInt < (u.1 0).toInt) ∧ (0 ≤ p2.toInt ∧ p2.toInt < (u.1 0).toInt) ∧ ¬ p1 = p2
  · obtain ⟨h1, h2, h3⟩ := h
    obtain ⟨a, ha, ha2, ha3⟩ := nat_of h1
    obtain ⟨b, hb, hb2, hb3⟩ := nat_of h2
    have hab : ¬ a = b := fun q => h3 (by rw [ha, hb, q])
    have hm : (((if a < b then b else a) : Nat) : Int) < (u.1 0).toInt := by split <;> assumption
    obtain ⟨k, hk8, hk⟩ := kd_of I (if a < b then b else a)
    have qm := (R.2.2.2.1 _ hm).2.1
    have qa := (R.2.2.2.1 a ha2).2.2.2.1
    have qb := (R.2.2.2.1 b hb2).2.2.2.1
    have E1 := share_c I ha2 hb2 hab rfl hk8 hk
    have E2 := share_m J (by rw [← RA_z R]; exact ha2) (by rw [← RA_z R]; exact hb2) hab rfl hk8 (by rw [← qm]; exact hk)
    rw [← qa, ← qb, ← RA_k R 4 (by decide)] at E2
    rw [← ha, ← hb] at E1 E2
    unfold shR at E1
    unfold shM at E2
    by_cases q : wS (u.2 4) k (u.2 10 a ||| u.2 10 b) = 0
    · rw [if_pos q] at E1 E2
      exact ⟨_, _, E1, E2, RA_0 R 2, by show (2 : Int32) = lwc [1, 5] 5; decide, fun q => by simp at q⟩
    · rw [if_neg q] at E1 E2
      exact ⟨_, _, E1, E2, RA_0 R 0, by show (0 : Int32) = lwc [1, 5] 0; decide, fun _ => rfl⟩
  · have E1 : fcJ_share u p1 p2 = some (1, (0 : Int32)) := by
      unfold fcJ_share
      rw [bi_s (two_c0 h), if_neg (by decide)]
    have E2 := share_m0 J (p1 := p1) (p2 := p2) (by rw [← RA_z R]; exact h)
    exact ⟨_, _, E1, E2, RA_0 R 1, by show (1 : Int32) = lwc [1, 5] 1; decide, fun q => by simp at q⟩
theorem lk_callAt (R : RA u w) (S : RS u) (I : IC g u) (J : IM g w) (p1 p2 : Int32) : ∃ rv rz, fcJ_callAt u p1 p2 = some rv ∧ fm_callAt w p1 p2 = some rz ∧ RA u rz.2 ∧ rz.2.1 0 = lwc [1] rv.1 ∧ (rv.1 = 0 → rv.2 = rz.1) := by
  have z := IC_s I
  have z0 : (0 : Int32).toInt = 0 := by decide
  have z4 : (4 : Int32).toInt = 4 := by decide
  have z5 : (5 : Int32).toInt = 5 := by decide
  by_cases h : (0 ≤ p1.toInt ∧ p1.toInt < (u.1 0).toInt) ∧ 0 ≤ p2.toInt ∧ p2.toInt < 5
  · obtain ⟨h1, h2⟩ := h
    obtain ⟨a, ha, ha2, ha3⟩ := nat_of h1
    have a120 : a < 120 := by omega
    obtain ⟨q7, q8, q9, q10, q12, q13, q14, q15, q16⟩ := R.2.2.2.1 a ha2
    have E1a : fcJ_callAt u p1 p2 = fcJ_callAt_27 u p1 p2 (1 : Int32) := by
      unfold fcJ_callAt
      rw [bi_s (isb1 h1), if_neg (by decide), bi_s (isb1 (by omega)), if_neg (by decide)]
    have E2a : fm_callAt w p1 p2 = fm_callAt_23 w p1 p2 (0 : Int32) := by
      unfold fm_callAt
      rw [bi_s (isc1 J (by rw [← RA_z R]; exact h1)), if_neg (by decide), bi_s (fm_in_1 (by omega)), if_pos (by decide)]
    have E1b : fcJ_callAt u p1 p2 = some (0, if p2 = 0 then u.2 13 a else if p2 = 1 then u.2 14 a else if p2 = 2 then u.2 16 a else if p2 = 3 then u.2 8 a else u.2 15 a) := by
      rw [E1a]
      unfold fcJ_callAt_27
      rw [bi_s nk1, if_pos rfl, ha, ck_nI (n := 121) (by omega) (by decide), ck_nI (n := 121) (by omega) (by decide), ck_nI (n := 121) (by omega) (by decide), ck_nI (n := 121) (by omega) (by decide), ck_nI (n := 121) (by omega) (by decide), n31 (by omega)]
      by_cases c0 : p2 = 0
      · rw [if_pos c0, if_pos c0]
      · rw [if_neg c0, if_neg c0]
        by_cases c1 : p2 = 1
        · rw [if_pos c1, if_pos c1]
        · rw [if_neg c1, if_neg c1]
          by_cases c2 : p2 = 2
          · rw [if_pos c2, if_pos c2]
          · rw [if_neg c2, if_neg c2]
            by_cases c3 : p2 = 3
            · rw [if_pos c3, if_pos c3]
            · rw [if_neg c3, if_neg c3]
    have E2b : fm_callAt w p1 p2 = some ((if p2 = 0 then u.2 13 a else if p2 = 1 then u.2 14 a else if p2 = 2 then u.2 16 a else if p2 = 3 then u.2 8 a else u.2 15 a), g_sI w 0 0) := by
      rw [E2a]
      unfold fm_callAt_23
      rw [bi_s (fm_thr_0 w)]
      dsimp only
      rw [if_pos rfl, ha, ck_nI (n := 120) a120 (by decide), ck_nI (n := 120) a120 (by decide), ck_nI (n := 120) a120 (by decide), ck_nI (n := 120) a120 (by decide), ck_nI (n := 120) a120 (by decide), n31 (by omega), q13, q14, q16, q8, q15]
      by_cases c0 : p2 = 0
      · rw [if_neg (fun y => y c0), if_pos c0]; rfl
      · rw [if_pos c0, if_neg c0]
        by_cases c1 : p2 = 1
        · rw [if_neg (fun y => y c1), if_pos c1]; rfl
        · rw [if_pos c1, if_neg c1]
          by_cases c2 : p2 = 2
          · rw [if_neg (fun y => y c2), if_pos c2]; rfl
          · rw [if_pos c2, if_neg c2]
            by_cases c3 : p2 = 3
            · rw [if_neg (fun y => y c3), if_pos c3]; rfl
            · rw [if_pos c3, if_neg c3]; rfl
    exact ⟨_, _, E1b, E2b, RA_0 R 0, by show (0 : Int32) = lwc [1] 0; decide, fun _ => rfl⟩
  · have h27 : fcJ_callAt_27 u p1 p2 (0 : Int32) = some (1, (0 : Int32)) := by
      unfold fcJ_callAt_27
      rw [bi_s nk0, if_neg (by decide)]
    have h23 : fm_callAt_23 w p1 p2 (1 : Int32) = some ((0 : Int32), g_sI w 0 1) := by
      unfold fm_callAt_23
      rw [bi_s (fm_thr_1 w 0 0)]
      dsimp only
      rw [if_neg (by decide)]
    have E1 : fcJ_callAt u p1 p2 = some (1, (0 : Int32)) := by
      unfold fcJ_callAt
      by_cases h1 : 0 ≤ p1.toInt ∧ p1.toInt < (u.1 0).toInt
      · rw [bi_s (isb1 h1), if_neg (by decide), bi_s (isb0 (by omega)), if_pos rfl]; exact h27
      · rw [bi_s (isb0 h1), if_pos rfl]; exact h27
    have E2 : fm_callAt w p1 p2 = some ((0 : Int32), g_sI w 0 1) := by
      unfold fm_callAt
      by_cases h1 : 0 ≤ p1.toInt ∧ p1.toInt < (u.1 0).toInt
      · rw [bi_s (isc1 J (by rw [← RA_z R]; exact h1)), if_neg (by decide), bi_s (fm_in_0 (by omega)), if_neg (fun q => q rfl)]; exact h23
      · rw [bi_s (isc0 J (by rw [← RA_z R]; exact h1)), if_pos rfl]; exact h23
    exact ⟨_, _, E1, E2, RA_0 R 1, by show (1 : Int32) = lwc [1] 1; decide, fun q => by simp at q⟩
theorem mu_mono (f : Nat → Int32) (e : Int32) : ∀ {n m : Nat}, n ≤ m → mu_ f e n ≤ mu_ f e m := by
  intro n m h
  induction m with
  | zero => obtain rfl : n = 0 := by omega
            exact Nat.le_refl _
  | succ m ih =>
    rcases Nat.lt_or_ge n (m + 1) with q | q
    · have := ih (by omega)
      rw [mu_s]; omega
    · obtain rfl : n = m + 1 := by omega
      exact Nat.le_refl _
theorem mem_eq {e : Int32} {N t : Nat} (hN : u.1 0 = nI N) (hNw : w.1 1 = nI N) (hN2 : N ≤ 120) (hf : ∀ j, j < N → w.2 12 j = u.2 13 j) (ht : t < mu_ (u.2 13) e N) : ∀ (j m i : Nat), i + j = N → j < m → mu_ (u.2 13) e i ≤ t → ∃ c : Nat, c < N ∧ fcA_memberOf_5 u m e (nI t) (nI (mu_ (u.2 13) e i)) (nI i) = some (nI c) ∧ fm_member_55 m w e (nI (t - mu_ (u.2 13) e i)) (nI i) = some (nI c, w) := by
  intro j
  induction j with
  | zero =>
    intro m i hi hm hc
    obtain rfl : i = N := by omega
    exfalso; omega
  | succ j ih =>
    intro m i hi hm hc
    obtain ⟨m, rfl⟩ : ∃ m', m = m' + 1 := ⟨m - 1, by omega⟩
    have hml := mu_le (u.2 13) e i
    have hmN := mu_le (u.2 13) e N
    have hst := mu_s (u.2 13) e i
    rw [fcA_memberOf_5_s, fm_member_55_s, hN, hNw, if_neg (nI_ge (by omega) (by omega)), if_neg (nI_ge (by omega) (by omega)), ck_nI (n := 121) (by omega) (by decide), ck_nI (n := 120) (by omega) (by decide), n31 (by omega), hf i (by omega), nI_1]
    by_cases q : u.2 13 i = e
    · rw [if_pos q] at hst
      have q' : ¬ ¬ u.2 13 i = e := fun y => y q
      rw [if_neg q', if_neg q']
      by_cases q2 : mu_ (u.2 13) e i = t
      · have s1 : ¬ ¬ nI (mu_ (u.2 13) e i) = nI t := fun y => y (by rw [q2])
        have s2 : ¬ ¬ nI (t - mu_ (u.2 13) e i) = 0 := fun y => y (by rw [q2, Nat.sub_self]; rfl)
        rw [if_neg s1, if_neg s2]
        exact ⟨i, by omega, rfl, rfl⟩
      · have s1 : ¬ nI (mu_ (u.2 13) e i) = nI t := fun y => q2 ((nI_eq (by omega) (by omega)).mp y)
        have s2 : ¬ nI (t - mu_ (u.2 13) e i) = 0 := fun y => by
          have := (nI_eq (a := t - mu_ (u.2 13) e i) (b := 0) (by omega) (by omega)).mp y
          omega
        obtain ⟨c, h1, h2, h3⟩ := ih m (i + 1) (by omega) (by omega) (by omega)
        refine ⟨c, h1, ?_, ?_⟩
        · rw [if_pos s1, nI_1, ← hst]
          exact h2
        · rw [if_pos s2, ck_nI (n := 120) (by omega) (by decide), if_neg q', gl_r]
          have e1 : nI (t - mu_ (u.2 13) e i) - (1 : Int32) = nI (t - mu_ (u.2 13) e (i + 1)) := by
            rw [show t - mu_ (u.2 13) e i = (t - mu_ (u.2 13) e (i + 1)) + 1 by omega, nI_pred]
          rw [e1]; exact h3
    · rw [if_neg q] at hst
      rw [if_pos q, if_pos q, ck_nI (n := 120) (by omega) (by decide), if_pos q, gl_r, Int32.sub_zero]
      obtain ⟨c, h1, h2, h3⟩ := ih m (i + 1) (by omega) (by omega) (by omega)
      rw [hst] at h2 h3
      exact ⟨c, h1, h2, h3⟩
theorem mem_no {e p2 : Int32} {N : Nat} (hN : u.1 0 = nI N) (hN2 : N ≤ 120) (hp : ¬ (0 ≤ p2.toInt ∧ p2.toInt < mu_ (u.2 13) e N)) : ∀ (j m i : Nat), i + j = N → j < m → fcA_memberOf_5 u m e p2 (nI (mu_ (u.2 13) e i)) (nI i) = some (-1 : Int32) := by
  intro j
  induction j with
  | zero =>
    intro m i hi hm
    obtain ⟨m, rfl⟩ : ∃ m', m = m' + 1 := ⟨m - 1, by omega⟩
    obtain rfl : i = N := by omega
    rw [fcA_memberOf_5_s, hN, if_pos (nI_le (Nat.le_refl _) (by omega))]
  | succ j ih =>
    intro m i hi hm
    obtain ⟨m, rfl⟩ : ∃ m', m = m' + 1 := ⟨m - 1, by omega⟩
    have hml := mu_le (u.2 13) e i
    have hst := mu_s (u.2 13) e i
    have hmo := mu_mono (u.2 13) e (show i + 1 ≤ N by omega)
    have h1 := ih m (i + 1) (by omega) (by omega)
    rw [fcA_memberOf_5_s, hN, if_neg (nI_ge (by omega) (by omega)), ck_nI (n := 121) (by omega) (by decide), n31 (by omega), nI_1, nI_1]
    by_cases q : u.2 13 i = e
    · rw [if_pos q] at hst
      rw [if_neg (fun y => y q), if_pos (fun y => hp (by rw [← y, nI_toInt (by omega)]; omega)), ← hst]
      exact h1
    · rw [if_neg q] at hst
      rw [if_pos q]
      rw [hst] at h1
      exact h1
theorem lk_member (R : RA u w) (S : RS u) (I : IC g u) (J : IM g w) (p1 p2 : Int32) : ∃ rv rz, fcJ_member u p1 p2 = some rv ∧ fm_member w p1 p2 = some rz ∧ RA u rz.2 ∧ rz.2.1 0 = lwc [1, 2] rv.1 ∧ (rv.1 = 0 → rv.2 = rz.1) := by
  have z := IC_s I
  have z0 : (0 : Int32).toInt = 0 := by decide
  obtain ⟨N, hN, hN2, -⟩ := nat_of (p := u.1 0) (n := 121) (by omega)
  have hNw : w.1 1 = nI N := by rw [← RA_z R]; exact hN
  have hNi : (u.1 0).toInt = N := by rw [hN, nI_toInt (by omega)]
  have hf : ∀ j, j < N → w.2 12 j = u.2 13 j := fun j hj => ((R.2.2.2.1 j (by omega)).2.2.2.2.2.1).symm
  have hsz : fm_size w p1 = some (nI (mu_ (u.2 13) p1 N)) := by
    rw [cntm_e p1 hNw (by omega), mu_ext (u.2 13) (w.2 12) p1 N hf]
  have hmN := mu_le (u.2 13) p1 N
  by_cases h1 : 0 ≤ p1.toInt ∧ p1.toInt < (u.1 1).toInt
  · have k1 : (0 ≤ p1.toInt ∧ p1.toInt < (w.1 2).toInt) := by rw [← RA_e R]; exact h1
    have ts : (nI (mu_ (u.2 13) p1 N) - (1 : Int32)).toInt = (mu_ (u.2 13) p1 N : Int) - 1 := oi_sub (nI_toInt (by omega)) (by decide) (by omega) (by omega)
    have E1a : ∀ r : Int32, fcA_memberOf u p1 p2 = some r → fcJ_member u p1 p2 = if r = -1 then some (2, (0 : Int32)) else some (0, r) := fun r hr => by
      unfold fcJ_member
      rw [bi_s (isb1 h1), bi_s nk1, if_pos rfl, bi_s hr, bi_s ng0, bi_s ng1, if_neg (by decide : ¬ (2 : Nat) = 0), if_pos (rfl : (0 : Nat) = 0)]
    by_cases h2 : 0 ≤ p2.toInt ∧ p2.toInt < (mu_ (u.2 13) p1 N : Int)
    · obtain ⟨t, ht, ht2, -⟩ := nat_of h2
      obtain ⟨c, hc, e1, e2⟩ := mem_eq (w := g_sI w 0 0) (e := p1) (N := N) (t := t) hN hNw (by omega) hf (by omega) N 200 0 (by omega) (by omega) (Nat.zero_le _)
      have E1 := E1a (nI c) (by rw [ht]; exact e1)
      rw [if_neg (nI_m1 (by omega))] at E1
      have E2 : fm_member w p1 p2 = some (nI c, g_sI w 0 0) := by
        unfold fm_member
        rw [bi_s (ise1 J k1), if_pos (by decide)]
        unfold fm_member_16
        rw [if_neg (by decide), bi_s hsz, bi_s (fm_in_1 (by omega)), if_pos (by decide)]
        unfold fm_member_40
        rw [bi_s (fm_thr_0 w)]
        dsimp only
        rw [if_pos rfl, ht]
        exact e2
      exact ⟨_, _, E1, E2, RA_0 R 0, by show (0 : Int32) = lwc [1, 2] 0; decide, fun _ => rfl⟩
    · have E1 := E1a (-1) (mem_no hN (by omega) h2 N 200 0 (by omega) (by omega))
      rw [if_pos rfl] at E1
      have E2 : fm_member w p1 p2 = some ((0 : Int32), g_sI w 0 2) := by
        unfold fm_member
        rw [bi_s (ise1 J k1), if_pos (by decide)]
        unfold fm_member_16
        rw [if_neg (by decide), bi_s hsz, bi_s (fm_in_0 (by omega)), if_neg (fun q => q rfl)]
        unfold fm_member_40
        rw [bi_s (fm_thr_2 w 0)]
        dsimp only
        rw [if_neg (by decide)]
      exact ⟨_, _, E1, E2, RA_0 R 2, by show (2 : Int32) = lwc [1, 2] 2; decide, fun q => by simp at q⟩
  · have E1 : fcJ_member u p1 p2 = some (1, (0 : Int32)) := by
      unfold fcJ_member
      rw [bi_s (isb0 h1), bi_s nk0, if_neg (by decide)]
    have E2 : fm_member w p1 p2 = some ((0 : Int32), g_sI w 0 1) := by
      unfold fm_member
      rw [bi_s (ise0 J (by rw [← RA_e R]; exact h1)), if_neg (fun q => q rfl)]
      unfold fm_member_16
      rw [if_pos rfl]
      unfold fm_member_40
      rw [bi_s (fm_thr_1 w 0 0)]
      dsimp only
      rw [if_neg (by decide)]
    exact ⟨_, _, E1, E2, RA_0 R 1, by show (1 : Int32) = lwc [1, 2] 1; decide, fun q => by simp at q⟩
theorem open_eq (R : RA u w) (I : IC g u) : ∀ (n i : Nat) (s : Int32), i ≤ 60 → fm_count_50 n w (2 : Int32) s (nI i) = (fcE_countOpen_4 u n s (nI i)).bind fun r => some (r, w) := by
  have z := IC_s I
  intro n
  induction n with
  | zero => intro i s _; rfl
  | succ n ih =>
    intro i s hi
    rw [fm_count_50_s, fcE_countOpen_4_s, RA_e R]
    by_cases h : w.1 2 ≤ nI i
    · rw [if_pos h, if_pos h]
      show fm_count_88 (199 + 1) w (2 : Int32) s (0 : Int32) = some (s, w)
      rw [fm_count_88_s]
      by_cases q : w.1 1 ≤ (0 : Int32)
      · rw [if_pos q]
      · rw [if_neg q, if_pos (by decide)]
    · have hie : (i : Int) < (u.1 1).toInt := by
        have e := mt Int32.le_iff_toInt_le.mpr h
        rw [nI_toInt (by omega), ← RA_e R] at e
        omega
      rw [if_neg h, if_neg h, if_neg (fun y => y rfl), ck_nI (n := 60) (by omega) (by decide), ck_nI (n := 60) (by omega) (by decide), n31 (by omega), ← (R.2.2.2.2 i hie).1, nI_1]
      by_cases q : u.2 17 i = 0
      · rw [if_neg (fun y => y q), if_neg (fun y => y q)]
        exact ih (i + 1) _ (by omega)
      · rw [if_pos q, if_pos q, gl_r, Int32.add_zero]
        exact ih (i + 1) _ (by omega)
theorem hoax_eq (R : RA u w) (I : IC g u) : ∀ (n i : Nat) (s : Int32), i ≤ 120 → fm_count_88 n w (3 : Int32) s (nI i) = (fcA_countHoaxes_4 u n s (nI i)).bind fun r => some (r, w) := by
  have z := IC_s I
  intro n
  induction n with
  | zero => intro i s _; rfl
  | succ n ih =>
    intro i s hi
    rw [fm_count_88_s, fcA_countHoaxes_4_s, RA_z R]
    by_cases h : w.1 1 ≤ nI i
    · rw [if_pos h, if_pos h]; rfl
    · obtain ⟨hic, hi20⟩ := ilt I R hi h
      rw [if_neg h, if_neg h, if_neg (fun y => y rfl), bi_s (hx_m hi20), bi_s (hx_c (by omega)), ← (R.2.2.2.1 i hic).2.2.2.2.2.2.2.2, nI_1]
      by_cases q : hxV (u.2 16 i) = 0
      · rw [if_pos q, if_pos q, gl_r, Int32.add_zero]
        exact ih (i + 1) _ (by omega)
      · rw [if_neg q, if_neg q]
        exact ih (i + 1) _ (by omega)
theorem lk_count (R : RA u w) (S : RS u) (I : IC g u) (J : IM g w) (p1 : Int32) : ∃ rv rz, fcJ_count u p1 = some rv ∧ fm_count w p1 = some rz ∧ RA u rz.2 ∧ rz.2.1 0 = lwc [1] rv.1 ∧ (rv.1 = 0 → rv.2 = rz.1) := by
  have z := IC_s I
  have z0 : (0 : Int32).toInt = 0 := by decide
  have z1 : (1 : Int32).toInt = 1 := by decide
  have z2 : (2 : Int32).toInt = 2 := by decide
  have z3 : (3 : Int32).toInt = 3 := by decide
  have z4 : (4 : Int32).toInt = 4 := by decide
  have R0 : RA u (g_sI w 0 0) := RA_0 R 0
  by_cases h : 0 ≤ p1.toInt ∧ p1.toInt < 4
  · have E1a : fcJ_count u p1 = if p1 = (0 : Int32) then (some (0, (u.1 0))) else if p1 = (1 : Int32) then (some (0, (u.1 1))) else if p1 = (2 : Int32) then ((fcE_countOpen u).bind fun v3 => some (0, v3)) else (fcA_countHoaxes u).bind fun v4 => some (0, v4) := by
      unfold fcJ_count
      rw [bi_s (isb1 (by omega)), bi_s nk1, if_pos rfl]
    have E2a : fm_count w p1 = if (2 : Int32) ≤ p1 then (fm_count_50 200 (g_sI w 0 0) p1 (0 : Int32) (0 : Int32)) else if ¬ p1 = 0 then (some (((g_sI w 0 0).1 2), (g_sI w 0 0))) else some (((g_sI w 0 0).1 1), (g_sI w 0 0)) := by
      unfold fm_count
      rw [bi_s (fm_in_1 (by omega)), if_pos (by decide)]
      unfold fm_count_15
      rw [bi_s (fm_thr_0 w)]
      dsimp only
      rw [if_pos rfl]
    by_cases c0 : p1 = 0
    · rw [if_pos c0] at E1a
      rw [if_neg (fun y => by rw [c0] at y; exact absurd y (by decide)), if_neg (fun y => y c0)] at E2a
      exact ⟨_, _, E1a, E2a, R0, by show (0 : Int32) = lwc [1] 0; decide, fun _ => RA_z R⟩
    · rw [if_neg c0] at E1a
      by_cases c1 : p1 = 1
      · rw [if_pos c1] at E1a
        rw [if_neg (fun y => by rw [c1] at y; exact absurd y (by decide)), if_pos c0] at E2a
        exact ⟨_, _, E1a, E2a, R0, by show (0 : Int32) = lwc [1] 0; decide, fun _ => RA_e R⟩
      · rw [if_neg c1] at E1a
        have g2 : (2 : Int32) ≤ p1 := Int32.le_iff_toInt_le.mpr (by
          have a0 : ¬ p1.toInt = 0 := fun q => c0 (Int32.toInt_inj.mp (by omega))
          have a1 : ¬ p1.toInt = 1 := fun q => c1 (Int32.toInt_inj.mp (by omega))
          omega)
        rw [if_pos g2] at E2a
        by_cases c2 : p1 = 2
        · rw [if_pos c2] at E1a
          obtain ⟨v, hv, -⟩ := okk_fcE_countOpen I
          rw [bi_s hv] at E1a
          have e := open_eq R0 I 200 0 0 (by omega)
          have hv' : fcE_countOpen_4 u 200 (0 : Int32) (nI 0) = some v := hv
          rw [bi_s hv'] at e
          rw [c2] at E2a
          have E2b := E2a.trans e
          rw [← c2] at E2b
          exact ⟨_, _, E1a, E2b, R0, by show (0 : Int32) = lwc [1] 0; decide, fun _ => rfl⟩
        · rw [if_neg c2] at E1a
          have c3 : p1 = 3 := Int32.toInt_inj.mp (by
            have a0 : ¬ p1.toInt = 0 := fun q => c0 (Int32.toInt_inj.mp (by omega))
            have a1 : ¬ p1.toInt = 1 := fun q => c1 (Int32.toInt_inj.mp (by omega))
            have a2 : ¬ p1.toInt = 2 := fun q => c2 (Int32.toInt_inj.mp (by omega))
            omega)
          obtain ⟨v, hv, -⟩ := okk_fcA_countHoaxes I
          rw [bi_s hv] at E1a
          have e := hoax_eq R0 I 200 0 0 (by omega)
          have hv' : fcA_countHoaxes_4 u 200 (0 : Int32) (nI 0) = some v := hv
          rw [bi_s hv'] at e
          have e5 : fm_count_50 200 (g_sI w 0 0) p1 (0 : Int32) (0 : Int32) = some (v, g_sI w 0 0) := by
            rw [c3]
            show fm_count_50 (199 + 1) (g_sI w 0 0) (3 : Int32) (0 : Int32) (0 : Int32) = _
            rw [fm_count_50_s]
            by_cases q : (g_sI w 0 0).1 2 ≤ (0 : Int32)
            · rw [if_pos q]; exact e
            · rw [if_neg q, if_pos (by decide)]; exact e
          exact ⟨_, _, E1a, E2a.trans e5, R0, by show (0 : Int32) = lwc [1] 0; decide, fun _ => rfl⟩
  · have E1 : fcJ_count u p1 = some (1, (0 : Int32)) := by
      unfold fcJ_count
      rw [bi_s (isb0 (by omega)), bi_s nk0, if_neg (by decide)]
    have E2 : fm_count w p1 = some ((0 : Int32), g_sI w 0 1) := by
      unfold fm_count
      rw [bi_s (fm_in_0 (by omega)), if_neg (fun q => q rfl)]
      unfold fm_count_15
      rw [bi_s (fm_thr_1 w 0 0)]
      dsimp only
      rw [if_neg (by decide)]
    exact ⟨_, _, E1, E2, RA_0 R 1, by show (1 : Int32) = lwc [1] 1; decide, fun q => by simp at q⟩
end RDK
