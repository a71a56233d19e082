set_option maxHeartbeats 4000000 in
theorem okz_fm_member {g : Nat → Int32} {u : g_S} (I : IM g u) {p1 : Int32} {p2 : Int32} (h0 : (u.1 1).toInt = 0) (h1 : (u.1 2).toInt = 0) : okk (fm_member u p1 p2) (fun r => ((r.2.1 0).toInt = 1)) := by
  unfold fm_member
  have z1_ := IM_s I
  refine okk_isEvent (fun b2_ => ?_) (fun b2_ => ?_)
  · have t3_ : ((u.1 2) - (1 : Int32)).toInt = ((u.1 2).toInt - (1 : Int)) := (oi_sub (a := (u.1 2)) (b := (1 : Int32)) rfl (by decide : (1 : Int32).toInt = 1) (by omega) (by omega))
    refine okk_t (by decide) ?_
    unfold fm_member_16
    refine okk_f (by decide) ?_
    refine okk_bi (okk_fm_size I) (fun v4_ hv4_ => ?_)
    have p5_ := hv4_
    try have t6_ : (0 : Int32).toInt = (0 : Int) := (by decide : (0 : Int32).toInt = 0)
    try have t7_ : (v4_ - (1 : Int32)).toInt = (v4_.toInt - (1 : Int)) := (oi_sub (a := v4_) (b := (1 : Int32)) rfl (by decide : (1 : Int32).toInt = 1) (by omega) (by omega))
    refine okk_in (fun b8_ => ?_) (fun b8_ => ?_)
    · refine okk_t (by decide) ?_
      unfold fm_member_40
      obtain ⟨u9_, eu9_⟩ : ∃ y, y = g_sI u 0 (0 : Int32) := ⟨_, rfl⟩
      refine okk_bs (v := ((0 : Int32), u9_)) (by rw [eu9_]; exact fm_thr_0 _) ?_
      dsimp only
      have Iu9_ : IM g u9_ := by rw [eu9_]; exact IM_ix I _ (by decide)
      have h010_ : (u9_.1 0).toInt = 0 := by rw [eu9_, rdI, if_pos rfl]; decide
      have z11_ : (u9_.1 1).toInt = (u.1 1).toInt := by rw [eu9_]; rfl
      have z12_ : (u9_.1 2).toInt = (u.1 2).toInt := by rw [eu9_]; rfl
      refine okk_t (by decide) ?_
      have z13_ := IM_s Iu9_
      refine okk_mono (okk_fm_member_55 200 u9_ p1 p2 (0 : Int32) Iu9_ (by omega) (by omega) (by omega)) (fun r14_ hr14_ => ?_)
      have p15_ := hr14_
      exact (by show (r14_.2.1 0).toInt = 1; omega)
    · refine okk_f (by decide) ?_
      unfold fm_member_40
      obtain ⟨u16_, eu16_⟩ : ∃ y, y = g_sI u 0 (2 : Int32) := ⟨_, rfl⟩
      refine okk_bs (v := ((1 : Int32), u16_)) (by rw [eu16_]; exact fm_thr_2 _ _) ?_
      dsimp only
      have Iu16_ : IM g u16_ := by rw [eu16_]; exact IM_ix I _ (by decide)
      have h017_ : (u16_.1 0).toInt = 2 := by rw [eu16_, rdI, if_pos rfl]; decide
      have z18_ : (u16_.1 1).toInt = (u.1 1).toInt := by rw [eu16_]; rfl
      have z19_ : (u16_.1 2).toInt = (u.1 2).toInt := by rw [eu16_]; rfl
      refine okk_f (by decide) ?_
      exact okk_some ((by show (u16_.1 0).toInt = 1; omega))
  · have t20_ : ((u.1 2) - (1 : Int32)).toInt = ((u.1 2).toInt - (1 : Int)) := (oi_sub (a := (u.1 2)) (b := (1 : Int32)) rfl (by decide : (1 : Int32).toInt = 1) (by omega) (by omega))
    refine okk_f (by decide) ?_
    unfold fm_member_16
    refine okk_t (by decide) ?_
    unfold fm_member_40
    obtain ⟨u21_, eu21_⟩ : ∃ y, y = g_sI u 0 (1 : Int32) := ⟨_, rfl⟩
    refine okk_bs (v := ((1 : Int32), u21_)) (by rw [eu21_]; exact fm_thr_1 _ _ _) ?_
    dsimp only
    have Iu21_ : IM g u21_ := by rw [eu21_]; exact IM_ix I _ (by decide)
    have h022_ : (u21_.1 0).toInt = 1 := by rw [eu21_, rdI, if_pos rfl]; decide
    have z23_ : (u21_.1 1).toInt = (u.1 1).toInt := by rw [eu21_]; rfl
    have z24_ : (u21_.1 2).toInt = (u.1 2).toInt := by rw [eu21_]; rfl
    refine okk_f (by decide) ?_
    try have t25_ : (0 : Int32).toInt = (0 : Int) := (by decide : (0 : Int32).toInt = 0)
    exact okk_some ((by show (u21_.1 0).toInt = 1; omega))
