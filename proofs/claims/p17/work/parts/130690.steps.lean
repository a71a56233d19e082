def Rel (u w : g_S) : Prop := ∃ g : Nat → Int32, IC g u ∧ IM g w ∧ RA u w ∧ RS u
theorem step_rule {u w : g_S} (hR : Rel u w) (p1 p2 p3 p4 p5 : Int32) : ∃ rv rz, fcJ_rule u p1 p2 p3 p4 p5 = some rv ∧ (rv.1 = 0 ∨ rv.1 = 1 ∨ rv.1 = 2) ∧ fm_rule w p1 p2 p3 p4 p5 = some rz ∧ Rel rv.2 rz := by
  obtain ⟨g, I, J, R, S⟩ := hR
  obtain ⟨rv, rz, h1, h2, R1, S1, k1⟩ := lk_rule R S I J p1 p2 p3 p4 p5
  obtain ⟨rv', h1', q1⟩ := okk_fcJ_rule I (p1 := p1) (p2 := p2) (p3 := p3) (p4 := p4) (p5 := p5)
  obtain ⟨rz', h2', q3⟩ := okk_fm_rule J (p1 := p1) (p2 := p2) (p3 := p3) (p4 := p4) (p5 := p5)
  rw [some_u h1' h1] at q1
  rw [some_u h2' h2] at q3
  exact ⟨rv, rz, h1, by have := q1.2; omega, h2, ⟨g, q1.1, q3.1, R1, S1⟩⟩
theorem step_weight {u w : g_S} (hR : Rel u w) (p1 p2 p3 : Int32) : ∃ rv rz, fcJ_weight u p1 p2 p3 = some rv ∧ (rv.1 = 0 ∨ rv.1 = 1 ∨ rv.1 = 2) ∧ fm_weight w p1 p2 p3 = some rz ∧ Rel rv.2 rz := by
  obtain ⟨g, I, J, R, S⟩ := hR
  obtain ⟨rv, rz, h1, h2, R1, S1, k1⟩ := lk_weight R S I J p1 p2 p3
  obtain ⟨rv', h1', q1⟩ := okk_fcJ_weight I (p1 := p1) (p2 := p2) (p3 := p3)
  obtain ⟨rz', h2', q3⟩ := okk_fm_weight J (p1 := p1) (p2 := p2) (p3 := p3)
  rw [some_u h1' h1] at q1
  rw [some_u h2' h2] at q3
  exact ⟨rv, rz, h1, by have := q1.2; omega, h2, ⟨g, q1.1, q3.1, R1, S1⟩⟩
theorem step_point {u w : g_S} (hR : Rel u w) (p1 p2 : Int32) : ∃ rv rz, fcJ_point u p1 p2 = some rv ∧ (rv.1 = 0 ∨ rv.1 = 1 ∨ rv.1 = 2 ∨ rv.1 = 4) ∧ fm_point w p1 p2 = some rz ∧ Rel rv.2.2 rz.2 := by
  obtain ⟨g, I, J, R, S⟩ := hR
  obtain ⟨rv, rz, h1, h2, R1, S1⟩ := lk_point R S I J p1 p2
  obtain ⟨rv', h1', q⟩ := okk_fcJ_point I (p1 := p1) (p2 := p2)
  obtain ⟨rz', h2', q2⟩ := okk_fm_point J (p1 := p1) (p2 := p2)
  rw [some_u h1' h1] at q
  rw [some_u h2' h2] at q2
  rcases q with ⟨a, a'⟩ | ⟨a, a'⟩ | ⟨a, a'⟩ | ⟨a, a', a''⟩ <;> rcases q2 with ⟨b, b'⟩ | ⟨b, b'⟩ | ⟨b, b'⟩ | ⟨b, b', b''⟩ <;> try (exfalso; omega)
  · exact ⟨rv, rz, h1, by omega, h2, ⟨g, a', b', R1, S1⟩⟩
  · exact ⟨rv, rz, h1, by omega, h2, ⟨g, a', b', R1, S1⟩⟩
  · exact ⟨rv, rz, h1, by omega, h2, ⟨g, a', b', R1, S1⟩⟩
  · exact ⟨rv, rz, h1, by omega, h2, ⟨_, a'', b'', R1, S1⟩⟩
theorem step_call {u w : g_S} (hR : Rel u w) (p1 p2 p3 p4 p5 p6 : Int32) : ∃ rv rz, fcJ_call u p1 p2 p3 p4 p5 p6 = some rv ∧ (rv.1 = 0 ∨ rv.1 = 1 ∨ rv.1 = 2 ∨ rv.1 = 4) ∧ fm_call w p1 p2 p3 p4 p5 p6 = some rz ∧ Rel rv.2.2 rz.2 := by
  obtain ⟨g, I, J, R, S⟩ := hR
  obtain ⟨rv, rz, h1, h2, R1, S1, k1, k2⟩ := lk_call R S I J p1 p2 p3 p4 p5 p6
  obtain ⟨rv', h1', q1⟩ := okk_fcJ_call I (p1 := p1) (p2 := p2) (p3 := p3) (p4 := p4) (p5 := p5) (p6 := p6)
  obtain ⟨rz', h2', q3⟩ := okk_fm_call J (p1 := p1) (p2 := p2) (p3 := p3) (p4 := p4) (p5 := p5) (p6 := p6)
  rw [some_u h1' h1] at q1
  rw [some_u h2' h2] at q3
  exact ⟨rv, rz, h1, q1.2, h2, ⟨g, q1.1, q3, R1, S1⟩⟩
theorem step_reasonFor {u w : g_S} (hR : Rel u w) (p1 p2 p3 p4 p5 p6 : Int32) : ∃ rv rz, fcJ_reasonFor u p1 p2 p3 p4 p5 p6 = some rv ∧ (rv.1 = 0 ∨ rv.1 = 1 ∨ rv.1 = 2) ∧ fm_reasonFor w p1 p2 p3 p4 p5 p6 = some rz ∧ Rel rv.2.2 rz.2 := by
  obtain ⟨g, I, J, R, S⟩ := hR
  obtain ⟨rv, rz, h1, h2, R1, S1, k1, k2⟩ := lk_reasonFor R S I J p1 p2 p3 p4 p5 p6
  obtain ⟨rv', h1', q1⟩ := okk_fcJ_reasonFor I (p1 := p1) (p2 := p2) (p3 := p3) (p4 := p4) (p5 := p5) (p6 := p6)
  obtain ⟨rz', h2', q3⟩ := okk_fm_reasonFor J (p1 := p1) (p2 := p2) (p3 := p3) (p4 := p4) (p5 := p5) (p6 := p6)
  rw [some_u h1' h1] at q1
  rw [some_u h2' h2] at q3
  exact ⟨rv, rz, h1, q1.2, h2, ⟨g, q1.1, q3, R1, S1⟩⟩
theorem step_mark {u w : g_S} (hR : Rel u w) (p1 p2 : Int32) : ∃ rv rz, fcJ_mark u p1 p2 = some rv ∧ (rv.1 = 0 ∨ rv.1 = 1 ∨ rv.1 = 2) ∧ fm_mark w p1 p2 = some rz ∧ Rel rv.2 rz := by
  obtain ⟨g, I, J, R, S⟩ := hR
  obtain ⟨rv, rz, h1, h2, R1, S1, k1⟩ := lk_mark R S I J p1 p2
  obtain ⟨rv', h1', q1⟩ := okk_fcJ_mark I (p1 := p1) (p2 := p2)
  obtain ⟨rz', h2', q3⟩ := okk_fm_mark J (p1 := p1) (p2 := p2)
  rw [some_u h1' h1] at q1
  rw [some_u h2' h2] at q3
  exact ⟨rv, rz, h1, q1.2, h2, ⟨g, q1.1, q3, R1, S1⟩⟩
theorem step_split {u w : g_S} (hR : Rel u w) (p1 : Int32) : ∃ rv rz, fcJ_split u p1 = some rv ∧ (rv.1 = 0 ∨ rv.1 = 1 ∨ rv.1 = 3 ∨ rv.1 = 4) ∧ fm_split w p1 = some rz ∧ Rel rv.2.2 rz.2 := by
  obtain ⟨g, I, J, R, S⟩ := hR
  obtain ⟨rv, rz, h1, h2, R1, S1, k1, k2⟩ := lk_split R S I J p1
  obtain ⟨rv', h1', q1⟩ := okk_fcJ_split I (p1 := p1)
  obtain ⟨rz', h2', q3⟩ := okk_fm_split J (p1 := p1)
  rw [some_u h1' h1] at q1
  rw [some_u h2' h2] at q3
  exact ⟨rv, rz, h1, q1.2, h2, ⟨g, q1.1, q3, R1, S1⟩⟩
theorem step_merge {u w : g_S} (hR : Rel u w) (p1 p2 : Int32) : ∃ rv rz, fcJ_merge u p1 p2 = some rv ∧ (rv.1 = 0 ∨ rv.1 = 1 ∨ rv.1 = 3) ∧ fm_merge w p1 p2 = some rz ∧ Rel rv.2.2 rz.2 := by
  obtain ⟨g, I, J, R, S⟩ := hR
  obtain ⟨rv, rz, h1, h2, R1, S1, k1, k2⟩ := lk_merge R S I J p1 p2
  obtain ⟨rv', h1', q1⟩ := okk_fcJ_merge I (p1 := p1) (p2 := p2)
  obtain ⟨rz', h2', q3⟩ := okk_fm_merge J (p1 := p1) (p2 := p2)
  rw [some_u h1' h1] at q1
  rw [some_u h2' h2] at q3
  exact ⟨rv, rz, h1, q1.2, h2, ⟨g, q1.1, q3, R1, S1⟩⟩
theorem step_watch {u w : g_S} (hR : Rel u w) (p1 p2 p3 p4 : Int32) : ∃ rv rz, fcJ_watch u p1 p2 p3 p4 = some rv ∧ (rv.1 = 0 ∨ rv.1 = 1 ∨ rv.1 = 2 ∨ rv.1 = 3) ∧ fm_watch w p1 p2 p3 p4 = some rz ∧ Rel rv.2 rz := by
  obtain ⟨g, I, J, R, S⟩ := hR
  obtain ⟨rv, rz, h1, h2, R1, S1, k1⟩ := lk_watch R S I J p1 p2 p3 p4
  obtain ⟨rv', h1', q1⟩ := okk_fcJ_watch I (p1 := p1) (p2 := p2) (p3 := p3) (p4 := p4)
  obtain ⟨rz', h2', q3⟩ := okk_fm_watch J (p1 := p1) (p2 := p2) (p3 := p3) (p4 := p4)
  rw [some_u h1' h1] at q1
  rw [some_u h2' h2] at q3
  exact ⟨rv, rz, h1, q1.2, h2, ⟨g, q1.1, q3, R1, S1⟩⟩
theorem step_state {u w : g_S} (hR : Rel u w) (p1 p2 : Int32) : ∃ rv rz, fcJ_state u p1 p2 = some rv ∧ (rv.1 = 0 ∨ rv.1 = 1 ∨ rv.1 = 2 ∨ rv.1 = 3) ∧ fm_state w p1 p2 = some rz ∧ Rel rv.2 rz := by
  obtain ⟨g, I, J, R, S⟩ := hR
  obtain ⟨rv, rz, h1, h2, R1, S1, k1⟩ := lk_state R S I J p1 p2
  obtain ⟨rv', h1', q1⟩ := okk_fcJ_state I (p1 := p1) (p2 := p2)
  obtain ⟨rz', h2', q3⟩ := okk_fm_state J (p1 := p1) (p2 := p2)
  rw [some_u h1' h1] at q1
  rw [some_u h2' h2] at q3
  exact ⟨rv, rz, h1, q1.2, h2, ⟨g, q1.1, q3, R1, S1⟩⟩
theorem step_share {u w : g_S} (hR : Rel u w) (p1 p2 : Int32) : ∃ rv rz, fcJ_share u p1 p2 = some rv ∧ (rv.1 = 0 ∨ rv.1 = 1 ∨ rv.1 = 5) ∧ fm_share w p1 p2 = some rz ∧ Rel u rz.2 := by
  obtain ⟨g, I, J, R, S⟩ := hR
  obtain ⟨rv, rz, h1, h2, R1, k1, k2⟩ := lk_share R S I J p1 p2
  obtain ⟨rv', h1', q1⟩ := okk_fcJ_share I (p1 := p1) (p2 := p2)
  obtain ⟨rz', h2', q3⟩ := okk_fm_share J (p1 := p1) (p2 := p2)
  rw [some_u h1' h1] at q1
  rw [some_u h2' h2] at q3
  exact ⟨rv, rz, h1, q1, h2, ⟨g, I, q3, R1, S⟩⟩
theorem step_agree {u w : g_S} (hR : Rel u w) (p1 p2 : Int32) : ∃ rv rz, fcJ_agree u p1 p2 = some rv ∧ (rv.1 = 0 ∨ rv.1 = 1) ∧ fm_agree w p1 p2 = some rz ∧ Rel u rz.2 := by
  obtain ⟨g, I, J, R, S⟩ := hR
  obtain ⟨rv, rz, h1, h2, R1, k1, k2⟩ := lk_agree R S I J p1 p2
  obtain ⟨rv', h1', q1⟩ := okk_fcJ_agree I (p1 := p1) (p2 := p2)
  obtain ⟨rz', h2', q3⟩ := okk_fm_agree J (p1 := p1) (p2 := p2)
  rw [some_u h1' h1] at q1
  rw [some_u h2' h2] at q3
  exact ⟨rv, rz, h1, q1, h2, ⟨g, I, q3, R1, S⟩⟩
theorem step_callAt {u w : g_S} (hR : Rel u w) (p1 p2 : Int32) : ∃ rv rz, fcJ_callAt u p1 p2 = some rv ∧ (rv.1 = 0 ∨ rv.1 = 1) ∧ fm_callAt w p1 p2 = some rz ∧ Rel u rz.2 := by
  obtain ⟨g, I, J, R, S⟩ := hR
  obtain ⟨rv, rz, h1, h2, R1, k1, k2⟩ := lk_callAt R S I J p1 p2
  obtain ⟨rv', h1', q1⟩ := okk_fcJ_callAt I (p1 := p1) (p2 := p2)
  obtain ⟨rz', h2', q3⟩ := okk_fm_callAt J (p1 := p1) (p2 := p2)
  rw [some_u h1' h1] at q1
  rw [some_u h2' h2] at q3
  exact ⟨rv, rz, h1, q1, h2, ⟨g, I, q3, R1, S⟩⟩
theorem step_eventAt {u w : g_S} (hR : Rel u w) (p1 p2 : Int32) : ∃ rv rz, fcJ_eventAt u p1 p2 = some rv ∧ (rv.1 = 0 ∨ rv.1 = 1) ∧ fm_eventAt w p1 p2 = some rz ∧ Rel u rz.2 := by
  obtain ⟨g, I, J, R, S⟩ := hR
  obtain ⟨rv, rz, h1, h2, R1⟩ := lk_eventAt R S I J p1 p2
  obtain ⟨rv', h1', q1⟩ := okk_fcJ_eventAt I (p1 := p1) (p2 := p2)
  obtain ⟨rz', h2', q3⟩ := okk_fm_eventAt J (p1 := p1) (p2 := p2)
  rw [some_u h1' h1] at q1
  rw [some_u h2' h2] at q3
  exact ⟨rv, rz, h1, q1, h2, ⟨g, I, q3, R1, S⟩⟩
theorem step_member {u w : g_S} (hR : Rel u w) (p1 p2 : Int32) : ∃ rv rz, fcJ_member u p1 p2 = some rv ∧ (rv.1 = 0 ∨ rv.1 = 1 ∨ rv.1 = 2) ∧ fm_member w p1 p2 = some rz ∧ Rel u rz.2 := by
  obtain ⟨g, I, J, R, S⟩ := hR
  obtain ⟨rv, rz, h1, h2, R1, k1, k2⟩ := lk_member R S I J p1 p2
  obtain ⟨rv', h1', q1⟩ := okk_fcJ_member I (p1 := p1) (p2 := p2)
  obtain ⟨rz', h2', q3⟩ := okk_fm_member J (p1 := p1) (p2 := p2)
  rw [some_u h1' h1] at q1
  rw [some_u h2' h2] at q3
  exact ⟨rv, rz, h1, q1, h2, ⟨g, I, q3, R1, S⟩⟩
theorem step_count {u w : g_S} (hR : Rel u w) (p1 : Int32) : ∃ rv rz, fcJ_count u p1 = some rv ∧ (rv.1 = 0 ∨ rv.1 = 1) ∧ fm_count w p1 = some rz ∧ Rel u rz.2 ∧ rz.2.1 0 = lwc [1] rv.1 ∧ (rv.1 = 0 → rv.2 = rz.1) := by
  obtain ⟨g, I, J, R, S⟩ := hR
  obtain ⟨rv, rz, h1, h2, R1, k1, k2⟩ := lk_count R S I J p1
  obtain ⟨rv', h1', q1⟩ := okk_fcJ_count I (p1 := p1)
  obtain ⟨rz', h2', q3⟩ := okk_fm_count J (p1 := p1)
  rw [some_u h1' h1] at q1
  rw [some_u h2' h2] at q3
  exact ⟨rv, rz, h1, q1, h2, ⟨g, I, q3, R1, S⟩, k1, k2⟩
