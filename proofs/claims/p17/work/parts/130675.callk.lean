section CLK
variable {g : Nat → Int32} {u w : g_S}
theorem fmcall_1 {p1 p2 p3 p4 p5 p6 v2 : Int32} (hv1 : fm_isKnown p2 p5 = some (0 : Int32)) (hv2 : fm_isRange w p1 p3 p6 = some v2) : fm_call w p1 p2 p3 p4 p5 p6 = some ((0 : Int32), g_sI w 0 1) := by
  have h45 : ∀ y2 y3 : Int32, fm_call_45 w p1 p2 p3 p4 p5 p6 (1 : Int32) y2 y3 = some ((0 : Int32), g_sI w 0 1) := fun y2 y3 => by
    unfold fm_call_45
    rw [bi_s (fm_thr_1 w y2 y3)]
    dsimp only
    rw [if_neg (by decide)]
  have h31 : ∀ y2 : Int32, fm_call_31 w p1 p2 p3 p4 p5 p6 (1 : Int32) y2 = some ((0 : Int32), g_sI w 0 1) := fun y2 => by
    unfold fm_call_31
    by_cases q : w.1 1 = (120 : Int32)
    · rw [if_neg (fun y => y q)]; exact h45 _ _
    · rw [if_pos q]; exact h45 _ _
  unfold fm_call
  rw [bi_s hv1, if_neg (fun q => q rfl)]
  unfold fm_call_15
  rw [bi_s hv2]
  by_cases q : v2 = 0
  · rw [if_neg (fun y => y q)]; exact h31 _
  · rw [if_pos q]; exact h31 _
theorem fmcall_2 {p1 p2 p3 p4 p5 p6 : Int32} (hv1 : fm_isKnown p2 p5 = some (1 : Int32)) (hv2 : fm_isRange w p1 p3 p6 = some (0 : Int32)) : fm_call w p1 p2 p3 p4 p5 p6 = some ((0 : Int32), g_sI w 0 2) := by
  have h45 : ∀ y3 : Int32, fm_call_45 w p1 p2 p3 p4 p5 p6 (0 : Int32) (1 : Int32) y3 = some ((0 : Int32), g_sI w 0 2) := fun y3 => by
    unfold fm_call_45
    rw [bi_s (fm_thr_2 w y3)]
    dsimp only
    rw [if_neg (by decide)]
  unfold fm_call
  rw [bi_s hv1, if_pos (by decide)]
  unfold fm_call_15
  rw [bi_s hv2, if_neg (fun q => q rfl)]
  unfold fm_call_31
  by_cases q : w.1 1 = (120 : Int32)
  · rw [if_neg (fun y => y q)]; exact h45 _
  · rw [if_pos q]; exact h45 _
theorem fmcall_3 {p1 p2 p3 p4 p5 p6 : Int32} (hv1 : fm_isKnown p2 p5 = some (1 : Int32)) (hv2 : fm_isRange w p1 p3 p6 = some (1 : Int32)) (h : w.1 1 = (120 : Int32)) : fm_call w p1 p2 p3 p4 p5 p6 = some ((0 : Int32), g_sI w 0 3) := by
  unfold fm_call
  rw [bi_s hv1, if_pos (by decide)]
  unfold fm_call_15
  rw [bi_s hv2, if_pos (by decide)]
  unfold fm_call_31
  rw [if_neg (fun y => y h)]
  unfold fm_call_45
  rw [bi_s (fm_thr_3 w)]
  dsimp only
  rw [if_neg (by decide)]
theorem lk_call (R : RA u w) (S : RS u) (I : IC g u) (J : IM g w) (p1 p2 p3 p4 p5 p6 : Int32) : ∃ rv rz, fcJ_call u p1 p2 p3 p4 p5 p6 = some rv ∧ fm_call w p1 p2 p3 p4 p5 p6 = some rz ∧ RA rv.2.2 rz.2 ∧ RS rv.2.2 ∧ rz.2.1 0 = lwc [1, 2, 4] rv.1 ∧ (rv.1 = 0 → rv.2.1 = rz.1) := by
  have z := IC_s I
  have zm : (-1 : Int32).toInt = -1 := by decide
  have z0 : (0 : Int32).toInt = 0 := by decide
  have z120 : (120 : Int32).toInt = 120 := by decide
  have z60 : (60 : Int32).toInt = 60 := by decide
  obtain ⟨c1, hc1, hc⟩ := okl_fcJ_needCallData I (p1 := p1) (p2 := p2) (p3 := p3) (p4 := p5) (p5 := p6)
  obtain ⟨v1, hv1, hv⟩ := okl_fm_isKnown (p0 := p2) (p1 := p5)
  obtain ⟨v2, hv2, hr⟩ := okl_fm_isRange J (p1 := p1) (p2 := p3) (p3 := p6)
  rw [← lat_eq R I] at hr
  rcases hc with ⟨a1, a2⟩ | ⟨a1, a2, a3⟩ | ⟨a1, a2, a3⟩
  · have E1 : fcJ_call u p1 p2 p3 p4 p5 p6 = some (1, (0 : Int32), u) := by
      unfold fcJ_call
      rw [bi_s hc1, a1, if_neg (by decide)]
    have v0 : v1 = 0 := ik0 (by omega)
    rw [v0] at hv1
    exact ⟨_, _, E1, fmcall_1 hv1 hv2, RA_0 R 1, S, by show (1 : Int32) = lwc [1, 2, 4] 1; decide, fun q => by simp at q⟩
  · have E1 : fcJ_call u p1 p2 p3 p4 p5 p6 = some (2, (0 : Int32), u) := by
      unfold fcJ_call
      rw [bi_s hc1, a1, if_neg (by decide)]
    have v0 : v1 = 1 := ik1 (by omega)
    have v20 : v2 = 0 := ik0 (by omega)
    rw [v0] at hv1
    rw [v20] at hv2
    exact ⟨_, _, E1, fmcall_2 hv1 hv2, RA_0 R 2, S, by show (2 : Int32) = lwc [1, 2, 4] 2; decide, fun q => by simp at q⟩
  · have v0 : v1 = 1 := ik1 (by omega)
    have v20 : v2 = 1 := ik1 (by omega)
    rw [v0] at hv1
    rw [v20] at hv2
    rw [a1] at hc1
    by_cases h120 : (120 : Int32) ≤ u.1 0
    · have E1 : fcJ_call u p1 p2 p3 p4 p5 p6 = some (4, (0 : Int32), u) := by
        unfold fcJ_call
        rw [bi_s hc1, if_pos rfl, if_pos h120]
        unfold fcJ_call_28
        rw [bi_s nr0, if_neg (by decide)]
      have e120 : w.1 1 = (120 : Int32) := by
        have := Int32.le_iff_toInt_le.mp h120
        rw [← RA_z R]
        exact Int32.toInt_inj.mp (by omega)
      exact ⟨_, _, E1, fmcall_3 hv1 hv2 e120, RA_0 R 3, S, by show (3 : Int32) = lwc [1, 2, 4] 4; decide, fun q => by simp at q⟩
    · have h120' := mt Int32.le_iff_toInt_le.mpr h120
      have n120 : ¬ w.1 1 = (120 : Int32) := fun q => by rw [← RA_z R] at q; rw [q] at h120'; exact h120' (Int.le_refl _)
      obtain ⟨N, r, h, u1, v4, w', hN, hN2, hde, hs, hsb, D, f1, f2, f3, f4, f5, f6, f8, f9, I4, ht⟩ := dseek R S I J (p1 := p1) (p2 := p2) (p3 := p3) (p4 := p4) (p5 := p5) (p6 := p6) (by omega) (by omega) (by omega)
      have hNi : (u.1 0).toInt = N := by rw [hN, nI_toInt (by omega)]
      have hN3 : N < 120 := by omega
      have E1 := fccall_go hN2 hc1 h120 hde hs D.2.2.2.2.2.1
      have E2 := fmcall_go hv1 hv2 n120 f1
      have w1N : w'.1 1 = nI N := by rw [f4, ← RA_z R]; exact hN
      by_cases q : r = -1
      · rw [if_neg (fun y => y q)] at E1
        rw [if_neg (fun y => by rw [q] at y; exact absurd y (by decide))] at E2
        have b10 : v4.1 1 = u.1 1 := by rw [hsb.1]
        by_cases h60 : (60 : Int32) ≤ v4.1 1
        · have e60 : w'.1 2 = (60 : Int32) := by
            have := Int32.le_iff_toInt_le.mp h60
            rw [b10] at this
            rw [f5, ← RA_e R]
            exact Int32.toInt_inj.mp (by omega)
          rw [if_pos h60] at E1
          rw [if_neg (fun y => y e60), c90x] at E2
          exact ⟨_, _, E1, E2, RA_0 (RA_i f2 f4 f5 (RA_sb hsb R)) 3, RS_sb hsb S, by show (3 : Int32) = lwc [1, 2, 4] 4; decide, fun q => by simp at q⟩
        · have h60' := mt Int32.le_iff_toInt_le.mpr h60
          rw [b10] at h60'
          obtain ⟨M, hM, hM2, -⟩ := nat_of (p := u.1 1) (n := 60) (by omega)
          have w2M : w'.1 2 = nI M := by rw [f5, ← RA_e R]; exact hM
          have n60 : ¬ w'.1 2 = (60 : Int32) := fun y => by rw [f5, ← RA_e R] at y; rw [y] at h60'; exact h60' (Int.le_refl _)
          rw [if_neg h60, bi_s (begin_e I4 (by rw [b10]; omega) p2 (nI N))] at E1
          rw [if_pos n60, c90 w1N hN3, if_neg (fun y => by rw [q] at y; exact absurd y (by decide))] at E2
          have hW2 : (nrS (g_sI w' 0 0) (nI N) p1 p2 p3 p4 p6 r (w'.1 3)).1 2 = w'.1 2 := rfl
          have hne := newEvent_e (w := nrS (g_sI w' 0 0) (nI N) p1 p2 p3 p4 p6 r (w'.1 3)) (by rw [hW2, w2M, nI_toInt (by omega)]; omega) (by rw [hW2, w2M, nI_toInt (by omega)]; omega)
          rw [bi_s hne] at E2
          dsimp only at E1 E2
          rw [c199 hN3] at E2
          obtain ⟨ra, rs⟩ := RAS_b R S hN hN3 hM (by omega) hsb D f2 f4 f5 f6 q ht (by omega) _ rfl _ rfl _ rfl
          exact ⟨_, _, E1, E2, ra, rs, by show (0 : Int32) = lwc [1, 2, 4] 0; decide, fun _ => rfl⟩
      · have hr0 : 0 ≤ r.toInt := by
          rcases Int.lt_or_le r.toInt 0 with y | y
          · exact absurd (Int32.toInt_inj.mp (by omega)) q
          · exact y
        rw [if_pos q, ck_in (vp_I hr0 (by omega))] at E1
        rw [if_pos (Int32.le_iff_toInt_le.mpr (by omega)), c90 w1N hN3, if_pos (Int32.le_iff_toInt_le.mpr (by omega)), ck_in (vp_I hr0 (by omega)), c199 hN3] at E2
        obtain ⟨ra, rs⟩ := RAS_a R S hN hN3 hsb D f2 f4 f5 f6 hr0 f9 ht (by omega) _ rfl
        exact ⟨_, _, E1, E2, ra, rs, by show (0 : Int32) = lwc [1, 2, 4] 0; decide, fun _ => rfl⟩
end CLK
