section PTK
variable {g : Nat → Int32} {u w : g_S}
theorem RS_w6 (S : RS u) (i v : Int32) (h : 0 ≤ v.toInt ∧ v.toInt ≤ 99999999) : RS (g_sA u 6 i v) := by
  obtain ⟨s1, s2, s3, s4⟩ := S
  refine ⟨fun j => ?_, ?_, ?_, ?_⟩
  · rw [rdk]
    by_cases y : j = i.toNatClampNeg
    · rw [if_pos y]; exact h
    · rw [if_neg y]; exact s1 j
  · rw [eqf_w 6 i v 12 (by decide), eqf_w 6 i v 9 (by decide), eqf_w 6 i v 13 (by decide), eqf_w 6 i v 14 (by decide)]; exact s2
  · rw [eqf_w 6 i v 14 (by decide), eqf_w 6 i v 13 (by decide)]; exact s3
  · rw [eqf_w 6 i v 17 (by decide), eqf_w 6 i v 19 (by decide), eqf_w 6 i v 13 (by decide), eqf_w 6 i v 14 (by decide), eqf_w 6 i v 18 (by decide), eqf_w 6 i v 8 (by decide)]; exact s4
theorem isr1 {p : Int32} (h : 0 ≤ p.toInt ∧ p.toInt ≤ 7) : fm_isRoad p = some (1 : Int32) := by
  have z0 : (0 : Int32).toInt = 0 := by decide
  have z7 : (7 : Int32).toInt = 7 := by decide
  unfold fm_isRoad
  rw [fm_in_1 (by omega)]; rfl
theorem isr0 {p : Int32} (h : ¬ (0 ≤ p.toInt ∧ p.toInt ≤ 7)) : fm_isRoad p = some (0 : Int32) := by
  have z0 : (0 : Int32).toInt = 0 := by decide
  have z7 : (7 : Int32).toInt = 7 := by decide
  unfold fm_isRoad
  rw [fm_in_0 (by omega)]; rfl
theorem isp1 {p : Int32} (h : 0 ≤ p.toInt ∧ p.toInt ≤ 99999999) : fm_isPoint p = some (1 : Int32) := by
  have z0 : (0 : Int32).toInt = 0 := by decide
  have z9 : (99999999 : Int32).toInt = 99999999 := by decide
  unfold fm_isPoint
  rw [fm_in_1 (by omega)]; rfl
theorem isp0 {p : Int32} (h : ¬ (0 ≤ p.toInt ∧ p.toInt ≤ 99999999)) : fm_isPoint p = some (0 : Int32) := by
  have z0 : (0 : Int32).toInt = 0 := by decide
  have z9 : (99999999 : Int32).toInt = 99999999 := by decide
  unfold fm_isPoint
  rw [fm_in_0 (by omega)]; rfl
theorem lk_point (R : RA u w) (S : RS u) (I : IC g u) (J : IM g w) (p1 p2 : Int32) : ∃ rv rz, fcJ_point u p1 p2 = some rv ∧ fm_point w p1 p2 = some rz ∧ RA rv.2.2 rz.2 ∧ RS rv.2.2 := by
  have z8 : (8 : Int32).toInt = 8 := by decide
  have zp : (100000000 : Int32).toInt = 100000000 := by decide
  have h59 : ∀ y1 y2 y3 k : Int32, fm_throwing w y1 y2 y3 = some ((1 : Int32), g_sI w 0 k) → fm_point_59 w p1 p2 y1 y2 y3 = some ((0 : Int32), g_sI w 0 k) := fun y1 y2 y3 k hk => by
    unfold fm_point_59
    rw [bi_s hk]
    dsimp only
    rw [if_neg (by decide)]
  by_cases hK : 0 ≤ p1.toInt ∧ p1.toInt ≤ 7
  · obtain ⟨r, hr, hr2, -⟩ := nat_of (p := p1) (n := 8) (by omega)
    have r8 : r < 8 := by omega
    have cr : (nI r).toNatClampNeg = r := n31 (by omega)
    have Er : ∀ {β : Type} (x : Option β), ck (nI r) 8 x = x := fun x => ck_nI r8 (by decide)
    have w5 : w.2 5 = u.2 5 := (RA_k R 5 (by decide)).symm
    have r5 := IC_r5 I r
    have E1a : ∀ v3, fcJ_isBelow p2 (100000000 : Int32) = some v3 → fcJ_point u p1 p2 = (fcJ_needRange v3).bind fun v4 => if v4 = 0 then (if (8 : Int32) ≤ u.2 5 r then (fcJ_point_37 u (nI r) p2 (0 : Int32)) else fcJ_point_37 u (nI r) p2 (1 : Int32)) else some (v4, (0 : Int32), u) := fun v3 hv => by
      unfold fcJ_point
      rw [bi_s (isb1 (by omega)), bi_s nk1, if_pos rfl, bi_s hv, hr, Er, cr]
    by_cases hP : 0 ≤ p2.toInt ∧ p2.toInt ≤ 99999999
    · have E1b := E1a 1 (isb1 (by omega))
      rw [bi_s ng1, if_pos rfl] at E1b
      have E2b : fm_point w p1 p2 = fm_point_48 w (nI r) p2 (0 : Int32) (0 : Int32) (nI r) := by
        unfold fm_point
        rw [bi_s (isr1 hK), if_pos (by decide)]
        unfold fm_point_13
        rw [bi_s (isp1 hP), if_pos (by decide)]
        unfold fm_point_25
        rw [bi_s (isr1 hK), if_neg (by decide), bi_s (isr1 hK), if_neg (by decide), hr]
      by_cases h8 : (8 : Int32) ≤ u.2 5 r
      · have e8 : u.2 5 r = 8 := Int32.toInt_inj.mp (by have := Int32.le_iff_toInt_le.mp h8; omega)
        rw [if_pos h8] at E1b
        unfold fcJ_point_37 at E1b
        rw [bi_s nr0, if_neg (by decide)] at E1b
        unfold fm_point_48 at E2b
        rw [Er, cr, w5, if_neg (fun q => q e8), ← hr, h59 0 0 1 3 (fm_thr_3 w)] at E2b
        exact ⟨_, _, E1b, E2b, RA_0 R 3, S⟩
      · have h8' := mt Int32.le_iff_toInt_le.mpr h8
        have n8 : ¬ u.2 5 r = 8 := fun q => by rw [q] at h8'; exact h8' (Int.le_refl _)
        obtain ⟨s, hs, hs2, -⟩ := nat_of (p := u.2 5 r) (n := 8) (by omega)
        have ix : nI r * (8 : Int32) + u.2 5 r = nI (8 * r + s) := by
          rw [hs, show (8 : Int32) = nI 8 from rfl, pk_mul, nI_add, Nat.mul_comm]
        have ix2 : (8 : Int32) * nI r + u.2 5 r = nI (8 * r + s) := by
          rw [hs, show (8 : Int32) = nI 8 from rfl, pk_mul, nI_add]
        have u5 : (g_sA u 6 (nI (8 * r + s)) p2).2 5 = u.2 5 := eqf_w 6 _ _ 5 (by decide)
        have v5 : (g_sA (g_sI w 0 0) 6 (nI (8 * r + s)) p2).2 5 = u.2 5 := by rw [eqf_w 6 _ _ 5 (by decide)]; exact w5
        rw [if_neg h8] at E1b
        have A : ∃ a, fcR_append u (nI r) p2 = some (a, g_sA (g_sA u 6 (nI (8 * r + s)) p2) 5 (nI r) (u.2 5 r + (1 : Int32))) := by
          unfold fcR_append
          rw [Er, cr, ix, ck_nI (n := 64) (by omega) (by decide), gl_r, Er, Er, gl_r, Er, u5]
          exact ⟨_, rfl⟩
        obtain ⟨a, A⟩ := A
        unfold fcJ_point_37 at E1b
        rw [bi_s nr1, if_pos rfl, bi_s A] at E1b
        have B : ∃ b, fm_point_59 w (nI r) p2 (0 : Int32) (0 : Int32) (0 : Int32) = some (b, g_sA (g_sA (g_sI w 0 0) 6 (nI (8 * r + s)) p2) 5 (nI r) (u.2 5 r + (1 : Int32))) := by
          unfold fm_point_59
          rw [bi_s (fm_thr_0 w)]
          dsimp only
          rw [if_pos rfl, Er, cr, show (g_sI w 0 0).2 5 r = u.2 5 r by rw [← w5]; rfl, ix2, ck_nI (n := 64) (by omega) (by decide), gl_r, Er, Er, gl_r, Er, v5]
          exact ⟨_, rfl⟩
        obtain ⟨b, B⟩ := B
        unfold fm_point_48 at E2b
        rw [Er, cr, w5, if_pos n8, B] at E2b
        exact ⟨_, _, E1b, E2b, RA_ws (RA_ws (RA_0 R 0) 6 _ _ (by decide)) 5 _ _ (by decide), RS_w (RS_w6 S _ _ hP) 5 _ _ (by decide)⟩
    · have E1b := E1a 0 (isb0 (by omega))
      rw [bi_s ng0, if_neg (by decide)] at E1b
      have E2b : fm_point w p1 p2 = some ((0 : Int32), g_sI w 0 2) := by
        unfold fm_point
        rw [bi_s (isr1 hK), if_pos (by decide)]
        unfold fm_point_13
        rw [bi_s (isp0 hP), if_neg (fun q => q rfl)]
        unfold fm_point_25
        rw [bi_s (isr1 hK), if_neg (by decide), bi_s (isr1 hK), if_neg (by decide)]
        unfold fm_point_48
        rw [hr, Er, ← hr, h59 0 1 0 2 (fm_thr_2 w 0), h59 0 1 1 2 (fm_thr_2 w 1)]
        split <;> rfl
      exact ⟨_, _, E1b, E2b, RA_0 R 2, S⟩
  · have E1 : fcJ_point u p1 p2 = some (1, (0 : Int32), u) := by
      unfold fcJ_point
      rw [bi_s (isb0 (by omega)), bi_s nk0, if_neg (by decide)]
    have h25 : ∀ y2 : Int32, fm_point_25 w p1 p2 (1 : Int32) y2 = some ((0 : Int32), g_sI w 0 1) := fun y2 => by
      unfold fm_point_25
      rw [bi_s (isr0 hK), if_pos rfl, h59 1 y2 0 1 (fm_thr_1 w y2 0)]
    have E2 : fm_point w p1 p2 = some ((0 : Int32), g_sI w 0 1) := by
      unfold fm_point
      rw [bi_s (isr0 hK), if_neg (fun q => q rfl)]
      unfold fm_point_13
      by_cases hP : 0 ≤ p2.toInt ∧ p2.toInt ≤ 99999999
      · rw [bi_s (isp1 hP), if_pos (by decide)]; exact h25 _
      · rw [bi_s (isp0 hP), if_neg (fun q => q rfl)]; exact h25 _
    exact ⟨_, _, E1, E2, RA_0 R 1, S⟩
end PTK
