section SML
variable {g : Nat → Int32} {u w : g_S}
theorem lk_rule (R : RA u w) (S : RS u) (I : IC g u) (J : IM g w) (p1 p2 p3 p4 p5 : Int32) : ∃ rv rz, fcJ_rule u p1 p2 p3 p4 p5 = some rv ∧ fm_rule w p1 p2 p3 p4 p5 = some rz ∧ RA rv.2 rz ∧ RS rv.2 ∧ rz.1 0 = lwc [1, 2] rv.1 := by
  have ez : (u.1 0).toInt = (w.1 1).toInt := by rw [RA_z R]
  have ee : (u.1 1).toInt = (w.1 2).toInt := by rw [RA_e R]
  obtain ⟨rv, h1, q1, q2, q3, q4⟩ := okl_fcJ_rule I (p1 := p1) (p2 := p2) (p3 := p3) (p4 := p4) (p5 := p5)
  obtain ⟨rz, h2, s1, s2, s3, s4⟩ := okl_fm_rule J (p1 := p1) (p2 := p2) (p3 := p3) (p4 := p4) (p5 := p5)
  refine ⟨rv, rz, h1, h2, ?_⟩
  rcases q2 with a | a | a <;> rcases s2 with b | b | b <;> try (exfalso; omega)
  · obtain ⟨k, hk⟩ := s4 (by omega)
    refine ⟨by rw [q4 (by omega), hk]; exact RA_0 R k, by rw [q4 (by omega)]; exact S, by rw [a.1]; exact Int32.toInt_inj.mp (by rw [b.1]; decide)⟩
  · obtain ⟨k, hk⟩ := s4 (by omega)
    refine ⟨by rw [q4 (by omega), hk]; exact RA_0 R k, by rw [q4 (by omega)]; exact S, by rw [a.1]; exact Int32.toInt_inj.mp (by rw [b.1]; decide)⟩
  · refine ⟨by rw [q3 a.1, s3 b.1]; exact RA_ws (RA_ws (RA_ws (RA_ws (RA_0 R 0) 0 _ _ (by decide)) 1 _ _ (by decide)) 2 _ _ (by decide)) 3 _ _ (by decide), by rw [q3 a.1]; exact RS_w (RS_w (RS_w (RS_w S 0 _ _ (by decide)) 1 _ _ (by decide)) 2 _ _ (by decide)) 3 _ _ (by decide), by rw [a.1]; exact Int32.toInt_inj.mp (by rw [b.1]; decide)⟩
theorem lk_weight (R : RA u w) (S : RS u) (I : IC g u) (J : IM g w) (p1 p2 p3 : Int32) : ∃ rv rz, fcJ_weight u p1 p2 p3 = some rv ∧ fm_weight w p1 p2 p3 = some rz ∧ RA rv.2 rz ∧ RS rv.2 ∧ rz.1 0 = lwc [1, 2] rv.1 := by
  have ez : (u.1 0).toInt = (w.1 1).toInt := by rw [RA_z R]
  have ee : (u.1 1).toInt = (w.1 2).toInt := by rw [RA_e R]
  obtain ⟨rv, h1, q1, q2, q3, q4⟩ := okl_fcJ_weight I (p1 := p1) (p2 := p2) (p3 := p3)
  obtain ⟨rz, h2, s1, s2, s3, s4⟩ := okl_fm_weight J (p1 := p1) (p2 := p2) (p3 := p3)
  refine ⟨rv, rz, h1, h2, ?_⟩
  rcases q2 with a | a | a <;> rcases s2 with b | b | b <;> try (exfalso; omega)
  · obtain ⟨k, hk⟩ := s4 (by omega)
    refine ⟨by rw [q4 (by omega), hk]; exact RA_0 R k, by rw [q4 (by omega)]; exact S, by rw [a.1]; exact Int32.toInt_inj.mp (by rw [b.1]; decide)⟩
  · obtain ⟨k, hk⟩ := s4 (by omega)
    refine ⟨by rw [q4 (by omega), hk]; exact RA_0 R k, by rw [q4 (by omega)]; exact S, by rw [a.1]; exact Int32.toInt_inj.mp (by rw [b.1]; decide)⟩
  · refine ⟨by rw [q3 a.1, s3 b.1]; rw [Int32.mul_comm p1 32]; exact RA_ws (RA_0 R 0) 4 _ _ (by decide), by rw [q3 a.1]; exact RS_w S 4 _ _ (by decide), by rw [a.1]; exact Int32.toInt_inj.mp (by rw [b.1]; decide)⟩
theorem lk_mark (R : RA u w) (S : RS u) (I : IC g u) (J : IM g w) (p1 p2 : Int32) : ∃ rv rz, fcJ_mark u p1 p2 = some rv ∧ fm_mark w p1 p2 = some rz ∧ RA rv.2 rz ∧ RS rv.2 ∧ rz.1 0 = lwc [1, 2] rv.1 := by
  have ez : (u.1 0).toInt = (w.1 1).toInt := by rw [RA_z R]
  have ee : (u.1 1).toInt = (w.1 2).toInt := by rw [RA_e R]
  obtain ⟨rv, h1, q1, q2, q3, q4⟩ := okl_fcJ_mark I (p1 := p1) (p2 := p2)
  obtain ⟨rz, h2, s1, s2, s3, s4⟩ := okl_fm_mark J (p1 := p1) (p2 := p2)
  refine ⟨rv, rz, h1, h2, ?_⟩
  rcases q2 with a | a | a <;> rcases s2 with b | b | b <;> try (exfalso; omega)
  · obtain ⟨k, hk⟩ := s4 (by omega)
    refine ⟨by rw [q4 (by omega), hk]; exact RA_0 R k, by rw [q4 (by omega)]; exact S, by rw [a.1]; exact Int32.toInt_inj.mp (by rw [b.1]; decide)⟩
  · obtain ⟨k, hk⟩ := s4 (by omega)
    refine ⟨by rw [q4 (by omega), hk]; exact RA_0 R k, by rw [q4 (by omega)]; exact S, by rw [a.1]; exact Int32.toInt_inj.mp (by rw [b.1]; decide)⟩
  · refine ⟨by rw [q3 a.1, s3 b.1]; exact RA_mark (RA_0 R 0) _ _, by rw [q3 a.1]; exact RS_w S 16 _ _ (by decide), by rw [a.1]; exact Int32.toInt_inj.mp (by rw [b.1]; decide)⟩
theorem lk_watch (R : RA u w) (S : RS u) (I : IC g u) (J : IM g w) (p1 p2 p3 p4 : Int32) : ∃ rv rz, fcJ_watch u p1 p2 p3 p4 = some rv ∧ fm_watch w p1 p2 p3 p4 = some rz ∧ RA rv.2 rz ∧ RS rv.2 ∧ rz.1 0 = lwc [1, 2, 3] rv.1 := by
  have ez : (u.1 0).toInt = (w.1 1).toInt := by rw [RA_z R]
  have ee : (u.1 1).toInt = (w.1 2).toInt := by rw [RA_e R]
  have e17 : 0 ≤ p1.toInt ∧ p1.toInt < (u.1 1).toInt → (u.2 17 p1.toNatClampNeg).toInt = (w.2 16 p1.toNatClampNeg).toInt := fun h => by
    have hc : (p1.toNatClampNeg : Int) = p1.toInt := cl_I h.1
    rw [(R.2.2.2.2 p1.toNatClampNeg (by omega)).1]
  obtain ⟨rv, h1, q1, q2, q3, q4⟩ := okl_fcJ_watch I (p1 := p1) (p2 := p2) (p3 := p3) (p4 := p4)
  obtain ⟨rz, h2, s1, s2, s3, s4⟩ := okl_fm_watch J (p1 := p1) (p2 := p2) (p3 := p3) (p4 := p4)
  rw [← RA_k R 5 (by decide)] at s2
  refine ⟨rv, rz, h1, h2, ?_⟩
  rcases q2 with a | a | a | a <;> rcases s2 with b | b | b | b <;> try (exfalso; omega)
  · obtain ⟨k, hk⟩ := s4 (by omega)
    refine ⟨by rw [q4 (by omega), hk]; exact RA_0 R k, by rw [q4 (by omega)]; exact S, by rw [a.1]; exact Int32.toInt_inj.mp (by rw [b.1]; decide)⟩
  · obtain ⟨k, hk⟩ := s4 (by omega)
    refine ⟨by rw [q4 (by omega), hk]; exact RA_0 R k, by rw [q4 (by omega)]; exact S, by rw [a.1]; exact Int32.toInt_inj.mp (by rw [b.1]; decide)⟩
  · obtain ⟨k, hk⟩ := s4 (by omega)
    refine ⟨by rw [q4 (by omega), hk]; exact RA_0 R k, by rw [q4 (by omega)]; exact S, by rw [a.1]; exact Int32.toInt_inj.mp (by rw [b.1]; decide)⟩
  · refine ⟨by rw [q3 a.1, s3 b.1]; exact RA_watch (RA_0 R 0) _ _ _ _ (by omega), by rw [q3 a.1]; exact RS_w (RS_w (RS_w S 20 _ _ (by decide)) 21 _ _ (by decide)) 22 _ _ (by decide), by rw [a.1]; exact Int32.toInt_inj.mp (by rw [b.1]; decide)⟩
theorem lk_state (R : RA u w) (S : RS u) (I : IC g u) (J : IM g w) (p1 p2 : Int32) : ∃ rv rz, fcJ_state u p1 p2 = some rv ∧ fm_state w p1 p2 = some rz ∧ RA rv.2 rz ∧ RS rv.2 ∧ rz.1 0 = lwc [1, 2, 3] rv.1 := by
  have ez : (u.1 0).toInt = (w.1 1).toInt := by rw [RA_z R]
  have ee : (u.1 1).toInt = (w.1 2).toInt := by rw [RA_e R]
  have e17 : 0 ≤ p1.toInt ∧ p1.toInt < (u.1 1).toInt → (u.2 17 p1.toNatClampNeg).toInt = (w.2 16 p1.toNatClampNeg).toInt := fun h => by
    have hc : (p1.toNatClampNeg : Int) = p1.toInt := cl_I h.1
    rw [(R.2.2.2.2 p1.toNatClampNeg (by omega)).1]
  obtain ⟨rv, h1, q1, q2, q3, q4⟩ := okl_fcJ_state I (p1 := p1) (p2 := p2)
  obtain ⟨rz, h2, s1, s2, s3, s4⟩ := okl_fm_state J (p1 := p1) (p2 := p2)
  refine ⟨rv, rz, h1, h2, ?_⟩
  rcases q2 with a | a | a | a <;> rcases s2 with b | b | b | b <;> try (exfalso; omega)
  · obtain ⟨k, hk⟩ := s4 (by omega)
    refine ⟨by rw [q4 (by omega), hk]; exact RA_0 R k, by rw [q4 (by omega)]; exact S, by rw [a.1]; exact Int32.toInt_inj.mp (by rw [b.1]; decide)⟩
  · obtain ⟨k, hk⟩ := s4 (by omega)
    refine ⟨by rw [q4 (by omega), hk]; exact RA_0 R k, by rw [q4 (by omega)]; exact S, by rw [a.1]; exact Int32.toInt_inj.mp (by rw [b.1]; decide)⟩
  · obtain ⟨k, hk⟩ := s4 (by omega)
    refine ⟨by rw [q4 (by omega), hk]; exact RA_0 R k, by rw [q4 (by omega)]; exact S, by rw [a.1]; exact Int32.toInt_inj.mp (by rw [b.1]; decide)⟩
  · refine ⟨by rw [q3 a.1, s3 b.1]; exact RA_state (RA_0 R 0) _ _ (fun y => absurd (show (u.2 17 p1.toNatClampNeg).toInt = 3 by rw [y]; decide) (by omega)), by rw [q3 a.1]; exact RS_state S _ _ (fun y => absurd (show (u.2 17 p1.toNatClampNeg).toInt = 3 by rw [y]; decide) (by omega)), by rw [a.1]; exact Int32.toInt_inj.mp (by rw [b.1]; decide)⟩
end SML
