def Rel (u w : g_S) : Prop := u = cj0 ∧ w = md0
theorem step_rule {u w : g_S} (hR : Rel u w) (p1 p2 p3 p4 p5 : Int32) : ∃ rv rz, fcJ_rule u p1 p2 p3 p4 p5 = some rv ∧ (rv.1 = 0 ∨ rv.1 = 1 ∨ rv.1 = 2) ∧ fm_rule w p1 p2 p3 p4 p5 = some rz ∧ True ∧ rz.1 0 = lwc [1, 2] rv.1 := by
  obtain ⟨rfl, rfl⟩ := hR
  obtain ⟨rv, h1, q1, q2⟩ := okk_fcJ_rule IC_0 (p1 := p1) (p2 := p2) (p3 := p3) (p4 := p4) (p5 := p5)
  obtain ⟨rz, h2, q3, q4⟩ := okk_fm_rule IM_0 (p1 := p1) (p2 := p2) (p3 := p3) (p4 := p4) (p5 := p5)
  refine ⟨rv, rz, h1, by omega, h2, trivial, ?_⟩
  rcases q2 with a | a | a <;> rcases q4 with b | b | b <;> try (exfalso; omega)
  · rw [a.1]; exact Int32.toInt_inj.mp (by rw [b.1]; decide)
  · rw [a.1]; exact Int32.toInt_inj.mp (by rw [b.1]; decide)
  · rw [a.1]; exact Int32.toInt_inj.mp (by rw [b.1]; decide)
theorem step_weight {u w : g_S} (hR : Rel u w) (p1 p2 p3 : Int32) : ∃ rv rz, fcJ_weight u p1 p2 p3 = some rv ∧ (rv.1 = 0 ∨ rv.1 = 1 ∨ rv.1 = 2) ∧ fm_weight w p1 p2 p3 = some rz ∧ True ∧ rz.1 0 = lwc [1, 2] rv.1 := by
  obtain ⟨rfl, rfl⟩ := hR
  obtain ⟨rv, h1, q1, q2⟩ := okk_fcJ_weight IC_0 (p1 := p1) (p2 := p2) (p3 := p3)
  obtain ⟨rz, h2, q3, q4⟩ := okk_fm_weight IM_0 (p1 := p1) (p2 := p2) (p3 := p3)
  refine ⟨rv, rz, h1, by omega, h2, trivial, ?_⟩
  rcases q2 with a | a | a <;> rcases q4 with b | b | b <;> try (exfalso; omega)
  · rw [a.1]; exact Int32.toInt_inj.mp (by rw [b.1]; decide)
  · rw [a.1]; exact Int32.toInt_inj.mp (by rw [b.1]; decide)
  · rw [a.1]; exact Int32.toInt_inj.mp (by rw [b.1]; decide)
theorem step_point {u w : g_S} (hR : Rel u w) (p1 p2 : Int32) : ∃ rv rz, fcJ_point u p1 p2 = some rv ∧ (rv.1 = 0 ∨ rv.1 = 1 ∨ rv.1 = 2 ∨ rv.1 = 4) ∧ fm_point w p1 p2 = some rz ∧ True ∧ rz.2.1 0 = lwc [1, 2, 4] rv.1 ∧ (rv.1 = 0 → rv.2.1 = rz.1) := by
  obtain ⟨rfl, rfl⟩ := hR
  obtain ⟨rv, h1, q⟩ := okk_fcJ_point IC_0 (p1 := p1) (p2 := p2)
  obtain ⟨rz, h2, q2⟩ := okk_fm_point IM_0 (p1 := p1) (p2 := p2)
  rcases q with ⟨a, a'⟩ | ⟨a, a'⟩ | ⟨a, a'⟩ | ⟨a, a', a''⟩ <;> rcases q2 with ⟨b, b'⟩ | ⟨b, b'⟩ | ⟨b, b'⟩ | ⟨b, b', b''⟩ <;> try (exfalso; omega)
  · exact ⟨rv, rz, h1, by omega, h2, trivial, by rw [a.1]; exact Int32.toInt_inj.mp (by rw [b.1]; decide), fun q => absurd q (by omega)⟩
  · exact ⟨rv, rz, h1, by omega, h2, trivial, by rw [a.1]; exact Int32.toInt_inj.mp (by rw [b.1]; decide), fun q => absurd q (by omega)⟩
  · exact ⟨rv, rz, h1, by omega, h2, trivial, by rw [a.1]; exact Int32.toInt_inj.mp (by rw [b.1]; decide), fun q => absurd q (by omega)⟩
  · exact ⟨rv, rz, h1, by omega, h2, trivial, by rw [a.1]; exact Int32.toInt_inj.mp (by rw [b.1]; decide), fun _ => by rw [a', b']⟩
theorem step_call {u w : g_S} (hR : Rel u w) (p1 p2 p3 p4 p5 p6 : Int32) : ∃ rv rz, fcJ_call u p1 p2 p3 p4 p5 p6 = some rv ∧ (rv.1 = 0 ∨ rv.1 = 1 ∨ rv.1 = 2 ∨ rv.1 = 4) ∧ fm_call w p1 p2 p3 p4 p5 p6 = some rz ∧ True ∧ rz.2.1 0 = lwc [1, 2, 4] rv.1 ∧ (rv.1 = 0 → rv.2.1 = rz.1) := by
  obtain ⟨rfl, rfl⟩ := hR
  obtain ⟨rv, h1, q⟩ := okz_fcJ_call IC_0 rfl rfl (p1 := p1) (p2 := p2) (p3 := p3) (p4 := p4) (p5 := p5) (p6 := p6)
  obtain ⟨rz, h2, q2⟩ := okz_fm_call IM_0 rfl rfl (p1 := p1) (p2 := p2) (p3 := p3) (p4 := p4) (p5 := p5) (p6 := p6)
  rcases q with a | a | ⟨a, a'⟩ <;> rcases q2 with b | b | ⟨b, b'⟩ <;> try (exfalso; omega)
  · exact ⟨rv, rz, h1, by omega, h2, trivial, by rw [a.1]; exact Int32.toInt_inj.mp (by rw [b.1]; decide), fun q => absurd q (by omega)⟩
  · exact ⟨rv, rz, h1, by omega, h2, trivial, by rw [a.1]; exact Int32.toInt_inj.mp (by rw [b.1]; decide), fun q => absurd q (by omega)⟩
  · exact ⟨rv, rz, h1, by omega, h2, trivial, by rw [a.1]; exact Int32.toInt_inj.mp (by rw [b.1]; decide), fun _ => by rw [a', b']⟩
theorem step_reasonFor {u w : g_S} (hR : Rel u w) (p1 p2 p3 p4 p5 p6 : Int32) : ∃ rv rz, fcJ_reasonFor u p1 p2 p3 p4 p5 p6 = some rv ∧ (rv.1 = 0 ∨ rv.1 = 1 ∨ rv.1 = 2) ∧ fm_reasonFor w p1 p2 p3 p4 p5 p6 = some rz ∧ True ∧ rz.2.1 0 = lwc [1, 2] rv.1 ∧ (rv.1 = 0 → rv.2.1 = rz.1) := by
  obtain ⟨rfl, rfl⟩ := hR
  obtain ⟨rv, h1, q⟩ := okz_fcJ_reasonFor IC_0 rfl rfl (p1 := p1) (p2 := p2) (p3 := p3) (p4 := p4) (p5 := p5) (p6 := p6)
  obtain ⟨rz, h2, q2⟩ := okz_fm_reasonFor IM_0 rfl rfl (p1 := p1) (p2 := p2) (p3 := p3) (p4 := p4) (p5 := p5) (p6 := p6)
  rcases q with a | a | ⟨a, a'⟩ <;> rcases q2 with b | b | ⟨b, b'⟩ <;> try (exfalso; omega)
  · exact ⟨rv, rz, h1, by omega, h2, trivial, by rw [a.1]; exact Int32.toInt_inj.mp (by rw [b.1]; decide), fun q => absurd q (by omega)⟩
  · exact ⟨rv, rz, h1, by omega, h2, trivial, by rw [a.1]; exact Int32.toInt_inj.mp (by rw [b.1]; decide), fun q => absurd q (by omega)⟩
  · exact ⟨rv, rz, h1, by omega, h2, trivial, by rw [a.1]; exact Int32.toInt_inj.mp (by rw [b.1]; decide), fun _ => by rw [a', b']⟩
theorem step_mark {u w : g_S} (hR : Rel u w) (p1 p2 : Int32) : ∃ rv rz, fcJ_mark u p1 p2 = some rv ∧ (rv.1 = 0 ∨ rv.1 = 1 ∨ rv.1 = 2) ∧ fm_mark w p1 p2 = some rz ∧ True ∧ rz.1 0 = lwc [1, 2] rv.1 := by
  obtain ⟨rfl, rfl⟩ := hR
  obtain ⟨rv, h1, q1⟩ := okz_fcJ_mark IC_0 (p1 := p1) (p2 := p2) (by decide) (by decide)
  obtain ⟨rz, h2, q2⟩ := okz_fm_mark IM_0 (p1 := p1) (p2 := p2) (by decide) (by decide)
  exact ⟨rv, rz, h1, by omega, h2, trivial, by rw [q1]; exact Int32.toInt_inj.mp (by rw [q2]; decide)⟩
theorem step_split {u w : g_S} (hR : Rel u w) (p1 : Int32) : ∃ rv rz, fcJ_split u p1 = some rv ∧ (rv.1 = 0 ∨ rv.1 = 1 ∨ rv.1 = 3 ∨ rv.1 = 4) ∧ fm_split w p1 = some rz ∧ True ∧ rz.2.1 0 = lwc [1, 3, 4] rv.1 ∧ (rv.1 = 0 → rv.2.1 = rz.1) := by
  obtain ⟨rfl, rfl⟩ := hR
  obtain ⟨rv, h1, q1⟩ := okz_fcJ_split IC_0 (p1 := p1) (by decide) (by decide)
  obtain ⟨rz, h2, q2⟩ := okz_fm_split IM_0 (p1 := p1) (by decide) (by decide)
  exact ⟨rv, rz, h1, by omega, h2, trivial, by rw [q1]; exact Int32.toInt_inj.mp (by rw [q2]; decide), fun q => absurd q (by omega)⟩
theorem step_merge {u w : g_S} (hR : Rel u w) (p1 p2 : Int32) : ∃ rv rz, fcJ_merge u p1 p2 = some rv ∧ (rv.1 = 0 ∨ rv.1 = 1 ∨ rv.1 = 3) ∧ fm_merge w p1 p2 = some rz ∧ True ∧ rz.2.1 0 = lwc [1, 3] rv.1 ∧ (rv.1 = 0 → rv.2.1 = rz.1) := by
  obtain ⟨rfl, rfl⟩ := hR
  obtain ⟨rv, h1, q1⟩ := okz_fcJ_merge IC_0 (p1 := p1) (p2 := p2) (by decide) (by decide)
  obtain ⟨rz, h2, q2⟩ := okz_fm_merge IM_0 (p1 := p1) (p2 := p2) (by decide) (by decide)
  exact ⟨rv, rz, h1, by omega, h2, trivial, by rw [q1]; exact Int32.toInt_inj.mp (by rw [q2]; decide), fun q => absurd q (by omega)⟩
theorem step_watch {u w : g_S} (hR : Rel u w) (p1 p2 p3 p4 : Int32) : ∃ rv rz, fcJ_watch u p1 p2 p3 p4 = some rv ∧ (rv.1 = 0 ∨ rv.1 = 1 ∨ rv.1 = 2 ∨ rv.1 = 3) ∧ fm_watch w p1 p2 p3 p4 = some rz ∧ True ∧ rz.1 0 = lwc [1, 2, 3] rv.1 := by
  obtain ⟨rfl, rfl⟩ := hR
  obtain ⟨rv, h1, q1⟩ := okz_fcJ_watch IC_0 (p1 := p1) (p2 := p2) (p3 := p3) (p4 := p4) (by decide) (by decide)
  obtain ⟨rz, h2, q2⟩ := okz_fm_watch IM_0 (p1 := p1) (p2 := p2) (p3 := p3) (p4 := p4) (by decide) (by decide)
  exact ⟨rv, rz, h1, by omega, h2, trivial, by rw [q1]; exact Int32.toInt_inj.mp (by rw [q2]; decide)⟩
theorem step_state {u w : g_S} (hR : Rel u w) (p1 p2 : Int32) : ∃ rv rz, fcJ_state u p1 p2 = some rv ∧ (rv.1 = 0 ∨ rv.1 = 1 ∨ rv.1 = 2 ∨ rv.1 = 3) ∧ fm_state w p1 p2 = some rz ∧ True ∧ rz.1 0 = lwc [1, 2, 3] rv.1 := by
  obtain ⟨rfl, rfl⟩ := hR
  obtain ⟨rv, h1, q1⟩ := okz_fcJ_state IC_0 (p1 := p1) (p2 := p2) (by decide) (by decide)
  obtain ⟨rz, h2, q2⟩ := okz_fm_state IM_0 (p1 := p1) (p2 := p2) (by decide) (by decide)
  exact ⟨rv, rz, h1, by omega, h2, trivial, by rw [q1]; exact Int32.toInt_inj.mp (by rw [q2]; decide)⟩
theorem step_share {u w : g_S} (hR : Rel u w) (p1 p2 : Int32) : ∃ rv rz, fcJ_share u p1 p2 = some rv ∧ (rv.1 = 0 ∨ rv.1 = 1 ∨ rv.1 = 5) ∧ fm_share w p1 p2 = some rz ∧ True ∧ rz.2.1 0 = lwc [1, 5] rv.1 ∧ (rv.1 = 0 → rv.2 = rz.1) := by
  obtain ⟨rfl, rfl⟩ := hR
  obtain ⟨rv, h1, q1⟩ := okz_fcJ_share IC_0 (p1 := p1) (p2 := p2) (by decide) (by decide)
  obtain ⟨rz, h2, q2⟩ := okz_fm_share IM_0 (p1 := p1) (p2 := p2) (by decide) (by decide)
  exact ⟨rv, rz, h1, by omega, h2, trivial, by rw [q1]; exact Int32.toInt_inj.mp (by rw [q2]; decide), fun q => absurd q (by omega)⟩
theorem step_agree {u w : g_S} (hR : Rel u w) (p1 p2 : Int32) : ∃ rv rz, fcJ_agree u p1 p2 = some rv ∧ (rv.1 = 0 ∨ rv.1 = 1) ∧ fm_agree w p1 p2 = some rz ∧ True ∧ rz.2.1 0 = lwc [1] rv.1 ∧ (rv.1 = 0 → rv.2 = rz.1) := by
  obtain ⟨rfl, rfl⟩ := hR
  obtain ⟨rv, h1, q1⟩ := okz_fcJ_agree IC_0 (p1 := p1) (p2 := p2) (by decide) (by decide)
  obtain ⟨rz, h2, q2⟩ := okz_fm_agree IM_0 (p1 := p1) (p2 := p2) (by decide) (by decide)
  exact ⟨rv, rz, h1, by omega, h2, trivial, by rw [q1]; exact Int32.toInt_inj.mp (by rw [q2]; decide), fun q => absurd q (by omega)⟩
theorem step_callAt {u w : g_S} (hR : Rel u w) (p1 p2 : Int32) : ∃ rv rz, fcJ_callAt u p1 p2 = some rv ∧ (rv.1 = 0 ∨ rv.1 = 1) ∧ fm_callAt w p1 p2 = some rz ∧ True ∧ rz.2.1 0 = lwc [1] rv.1 ∧ (rv.1 = 0 → rv.2 = rz.1) := by
  obtain ⟨rfl, rfl⟩ := hR
  obtain ⟨rv, h1, q1⟩ := okz_fcJ_callAt IC_0 (p1 := p1) (p2 := p2) (by decide) (by decide)
  obtain ⟨rz, h2, q2⟩ := okz_fm_callAt IM_0 (p1 := p1) (p2 := p2) (by decide) (by decide)
  exact ⟨rv, rz, h1, by omega, h2, trivial, by rw [q1]; exact Int32.toInt_inj.mp (by rw [q2]; decide), fun q => absurd q (by omega)⟩
theorem step_eventAt {u w : g_S} (hR : Rel u w) (p1 p2 : Int32) : ∃ rv rz, fcJ_eventAt u p1 p2 = some rv ∧ (rv.1 = 0 ∨ rv.1 = 1) ∧ fm_eventAt w p1 p2 = some rz ∧ True ∧ rz.2.1 0 = lwc [1] rv.1 ∧ (rv.1 = 0 → rv.2 = rz.1) := by
  obtain ⟨rfl, rfl⟩ := hR
  obtain ⟨rv, h1, q1⟩ := okz_fcJ_eventAt IC_0 (p1 := p1) (p2 := p2) (by decide) (by decide)
  obtain ⟨rz, h2, q2⟩ := okz_fm_eventAt IM_0 (p1 := p1) (p2 := p2) (by decide) (by decide)
  exact ⟨rv, rz, h1, by omega, h2, trivial, by rw [q1]; exact Int32.toInt_inj.mp (by rw [q2]; decide), fun q => absurd q (by omega)⟩
theorem step_member {u w : g_S} (hR : Rel u w) (p1 p2 : Int32) : ∃ rv rz, fcJ_member u p1 p2 = some rv ∧ (rv.1 = 0 ∨ rv.1 = 1 ∨ rv.1 = 2) ∧ fm_member w p1 p2 = some rz ∧ True ∧ rz.2.1 0 = lwc [1, 2] rv.1 ∧ (rv.1 = 0 → rv.2 = rz.1) := by
  obtain ⟨rfl, rfl⟩ := hR
  obtain ⟨rv, h1, q1⟩ := okz_fcJ_member IC_0 (p1 := p1) (p2 := p2) (by decide) (by decide)
  obtain ⟨rz, h2, q2⟩ := okz_fm_member IM_0 (p1 := p1) (p2 := p2) (by decide) (by decide)
  exact ⟨rv, rz, h1, by omega, h2, trivial, by rw [q1]; exact Int32.toInt_inj.mp (by rw [q2]; decide), fun q => absurd q (by omega)⟩
theorem step_count {u w : g_S} (hR : Rel u w) (p1 : Int32) : ∃ rv rz, fcJ_count u p1 = some rv ∧ (rv.1 = 0 ∨ rv.1 = 1) ∧ fm_count w p1 = some rz ∧ True ∧ rz.2.1 0 = lwc [1] rv.1 ∧ (rv.1 = 0 → rv.2 = rz.1) := by
  obtain ⟨rfl, rfl⟩ := hR
  obtain ⟨rv, h1, q⟩ := okz_fcJ_count (u := cj0) rfl rfl (p1 := p1)
  obtain ⟨rz, h2, q2⟩ := okz_fm_count (u := md0) rfl rfl (p1 := p1)
  rcases q with a | ⟨a, a'⟩ <;> rcases q2 with b | ⟨b, b'⟩ <;> try (exfalso; omega)
  · exact ⟨rv, rz, h1, by omega, h2, trivial, by rw [a.1]; exact Int32.toInt_inj.mp (by rw [b.1]; decide), fun q => absurd q (by omega)⟩
  · exact ⟨rv, rz, h1, by omega, h2, trivial, by rw [a.1]; exact Int32.toInt_inj.mp (by rw [b.1]; decide), fun _ => by rw [a', b']⟩
theorem Rel_0 : 0 = 0 → Rel cj0 md0 := fun _ => ⟨rfl, rfl⟩
