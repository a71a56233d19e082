set_option maxHeartbeats 4000000 in
theorem okk_fm_member_55 {g : Nat → Int32} : ∀ (n : Nat) (u : g_S) (x1 : Int32) (x4 : Int32) (x5 : Int32), IM g u → 0 ≤ x5.toInt → x5.toInt ≤ 120 → 121 ≤ (n : Int) + x5.toInt → okk (fm_member_55 n u x1 x4 x5) (fun r => IM g r.2) := by
  intro n
  induction n with
  | zero =>
    intro u x1 x4 x5 I h0 h1 hf
    exfalso; omega
  | succ n ih =>
    intro u x1 x4 x5 I h0 h1 hf
    rw [fm_member_55_s]
    have z1_ := IM_s I
    refine okk_le (fun c2_ c2_I => ?_) (fun c2_ c2_I => ?_)
    · exact okk_some (I)
    · refine okk_ck (vp_I (by omega) (by omega)) ?_
      have r4_ := IM_r12 I x5.toNatClampNeg
      refine okk_ne (fun c3_ c3_I => ?_) (fun c3_ c3_I => ?_)
      · refine okk_ck (vp_I (by omega) (by omega)) ?_
        refine okk_ne (fun c5_ c5_I => ?_) (fun c5_ c5_I => ?_)
        · try have t7_ : (x4 - (0 : Int32)).toInt = (x4.toInt - (0 : Int)) := (oi_sub (a := x4) (b := (0 : Int32)) rfl (by decide : (0 : Int32).toInt = 0) (by omega) (by omega))
          refine okk_gl (fun w36_ ew36_ => ?_)
          have t8_ : w36_.toInt = (x4 - (0 : Int32)).toInt := by rw [ew36_]
          have t9_ : (x5 + (1 : Int32)).toInt = (x5.toInt + (1 : Int)) := (oi_add (a := x5) (b := (1 : Int32)) rfl (by decide : (1 : Int32).toInt = 1) (by omega) (by omega))
          exact ih u x1 w36_ (x5 + (1 : Int32)) I (by omega) (by omega) (by omega)
        · try have t11_ : (x4 - (1 : Int32)).toInt = (x4.toInt - (1 : Int)) := (oi_sub (a := x4) (b := (1 : Int32)) rfl (by decide : (1 : Int32).toInt = 1) (by omega) (by omega))
          refine okk_gl (fun w410_ ew410_ => ?_)
          have t12_ : w410_.toInt = (x4 - (1 : Int32)).toInt := by rw [ew410_]
          have t13_ : (x5 + (1 : Int32)).toInt = (x5.toInt + (1 : Int)) := (oi_add (a := x5) (b := (1 : Int32)) rfl (by decide : (1 : Int32).toInt = 1) (by omega) (by omega))
          exact ih u x1 w410_ (x5 + (1 : Int32)) I (by omega) (by omega) (by omega)
      · try have t15_ : (0 : Int32).toInt = (0 : Int) := (by decide : (0 : Int32).toInt = 0)
        refine okk_ne (fun c14_ c14_I => ?_) (fun c14_ c14_I => ?_)
        · refine okk_ck (vp_I (by omega) (by omega)) ?_
          refine okk_ne (fun c16_ c16_I => ?_) (fun c16_ c16_I => ?_)
          · try have t18_ : (x4 - (0 : Int32)).toInt = (x4.toInt - (0 : Int)) := (oi_sub (a := x4) (b := (0 : Int32)) rfl (by decide : (0 : Int32).toInt = 0) (by omega) (by omega))
            refine okk_gl (fun w517_ ew517_ => ?_)
            have t19_ : w517_.toInt = (x4 - (0 : Int32)).toInt := by rw [ew517_]
            have t20_ : (x5 + (1 : Int32)).toInt = (x5.toInt + (1 : Int)) := (oi_add (a := x5) (b := (1 : Int32)) rfl (by decide : (1 : Int32).toInt = 1) (by omega) (by omega))
            exact ih u x1 w517_ (x5 + (1 : Int32)) I (by omega) (by omega) (by omega)
          · try have t22_ : (x4 - (1 : Int32)).toInt = (x4.toInt - (1 : Int)) := (oi_sub (a := x4) (b := (1 : Int32)) rfl (by decide : (1 : Int32).toInt = 1) (by omega) (by omega))
            refine okk_gl (fun w621_ ew621_ => ?_)
            have t23_ : w621_.toInt = (x4 - (1 : Int32)).toInt := by rw [ew621_]
            have t24_ : (x5 + (1 : Int32)).toInt = (x5.toInt + (1 : Int)) := (oi_add (a := x5) (b := (1 : Int32)) rfl (by decide : (1 : Int32).toInt = 1) (by omega) (by omega))
            exact ih u x1 w621_ (x5 + (1 : Int32)) I (by omega) (by omega) (by omega)
        · exact okk_some (I)
set_option maxHeartbeats 4000000 in
theorem okk_fm_member {g : Nat → Int32} {u : g_S} (I : IM g u) {p1 : Int32} {p2 : Int32} : okk (fm_member u p1 p2) (fun r => IM g r.2) := by
  unfold fm_member
  have z1_ := IM_s I
  refine okk_isEvent (fun b2_ => ?_) (fun b2_ => ?_)
  · have t3_ : ((u.1 2) - (1 : Int32)).toInt = ((u.1 2).toInt - (1 : Int)) := (oi_sub (a := (u.1 2)) (b := (1 : Int32)) rfl (by decide : (1 : Int32).toInt = 1) (by omega) (by omega))
    refine okk_t (by decide) ?_
    unfold fm_member_16
    refine okk_f (by decide) ?_
    refine okk_bi (okk_fm_size I) (fun v4_ hv4_ => ?_)
    have p5_ := hv4_
    try have t6_ : (0 : Int32).toInt = (0 : Int) := (by decide : (0 : Int32).toInt = 0)
    try have t7_ : (v4_ - (1 : Int32)).toInt = (v4_.toInt - (1 : Int)) := (oi_sub (a := v4_) (b := (1 : Int32)) rfl (by decide : (1 : Int32).toInt = 1) (by omega) (by omega))
    refine okk_in (fun b8_ => ?_) (fun b8_ => ?_)
    · refine okk_t (by decide) ?_
      unfold fm_member_40
      obtain ⟨u9_, eu9_⟩ : ∃ y, y = g_sI u 0 (0 : Int32) := ⟨_, rfl⟩
      refine okk_bs (v := ((0 : Int32), u9_)) (by rw [eu9_]; exact fm_thr_0 _) ?_
      dsimp only
      have Iu9_ : IM g u9_ := by rw [eu9_]; exact IM_ix I _ (by decide)
      have h010_ : (u9_.1 0).toInt = 0 := by rw [eu9_, rdI, if_pos rfl]; decide
      have z11_ : (u9_.1 1).toInt = (u.1 1).toInt := by rw [eu9_]; rfl
      have z12_ : (u9_.1 2).toInt = (u.1 2).toInt := by rw [eu9_]; rfl
      refine okk_t (by decide) ?_
      have z13_ := IM_s Iu9_
      exact okk_fm_member_55 200 u9_ p1 p2 (0 : Int32) Iu9_ (by omega) (by omega) (by omega)
    · refine okk_f (by decide) ?_
      unfold fm_member_40
      obtain ⟨u14_, eu14_⟩ : ∃ y, y = g_sI u 0 (2 : Int32) := ⟨_, rfl⟩
      refine okk_bs (v := ((1 : Int32), u14_)) (by rw [eu14_]; exact fm_thr_2 _ _) ?_
      dsimp only
      have Iu14_ : IM g u14_ := by rw [eu14_]; exact IM_ix I _ (by decide)
      have h015_ : (u14_.1 0).toInt = 2 := by rw [eu14_, rdI, if_pos rfl]; decide
      have z16_ : (u14_.1 1).toInt = (u.1 1).toInt := by rw [eu14_]; rfl
      have z17_ : (u14_.1 2).toInt = (u.1 2).toInt := by rw [eu14_]; rfl
      refine okk_f (by decide) ?_
      exact okk_some (Iu14_)
  · have t18_ : ((u.1 2) - (1 : Int32)).toInt = ((u.1 2).toInt - (1 : Int)) := (oi_sub (a := (u.1 2)) (b := (1 : Int32)) rfl (by decide : (1 : Int32).toInt = 1) (by omega) (by omega))
    refine okk_f (by decide) ?_
    unfold fm_member_16
    refine okk_t (by decide) ?_
    unfold fm_member_40
    obtain ⟨u19_, eu19_⟩ : ∃ y, y = g_sI u 0 (1 : Int32) := ⟨_, rfl⟩
    refine okk_bs (v := ((1 : Int32), u19_)) (by rw [eu19_]; exact fm_thr_1 _ _ _) ?_
    dsimp only
    have Iu19_ : IM g u19_ := by rw [eu19_]; exact IM_ix I _ (by decide)
    have h020_ : (u19_.1 0).toInt = 1 := by rw [eu19_, rdI, if_pos rfl]; decide
    have z21_ : (u19_.1 1).toInt = (u.1 1).toInt := by rw [eu19_]; rfl
    have z22_ : (u19_.1 2).toInt = (u.1 2).toInt := by rw [eu19_]; rfl
    refine okk_f (by decide) ?_
    exact okk_some (Iu19_)
set_option maxHeartbeats 4000000 in
theorem okk_fm_count_88 {g : Nat → Int32} : ∀ (n : Nat) (u : g_S) (x1 : Int32) (x2 : Int32) (x3 : Int32), IM g u → 0 ≤ x3.toInt → x3.toInt ≤ 120 → 121 ≤ (n : Int) + x3.toInt → okk (fm_count_88 n u x1 x2 x3) (fun r => IM g r.2) := by
  intro n
  induction n with
  | zero =>
    intro u x1 x2 x3 I h0 h1 hf
    exfalso; omega
  | succ n ih =>
    intro u x1 x2 x3 I h0 h1 hf
    rw [fm_count_88_s]
    have z1_ := IM_s I
    refine okk_le (fun c2_ c2_I => ?_) (fun c2_ c2_I => ?_)
    · exact okk_some (I)
    · try have t4_ : (3 : Int32).toInt = (3 : Int) := (by decide : (3 : Int32).toInt = 3)
      refine okk_ne (fun c3_ c3_I => ?_) (fun c3_ c3_I => ?_)
      · exact okk_some (I)
      · refine okk_bi (okk_fm_isHoax I (by omega) (by omega)) (fun v5_ hv5_ => ?_)
        have p6_ := hv5_
        try have t8_ : (0 : Int32).toInt = (0 : Int) := (by decide : (0 : Int32).toInt = 0)
        refine okk_eq (fun c7_ c7_I => ?_) (fun c7_ c7_I => ?_)
        · try have t10_ : (x2 + (0 : Int32)).toInt = (x2.toInt + (0 : Int)) := (oi_add (a := x2) (b := (0 : Int32)) rfl (by decide : (0 : Int32).toInt = 0) (by omega) (by omega))
          refine okk_gl (fun w49_ ew49_ => ?_)
          have t11_ : w49_.toInt = (x2 + (0 : Int32)).toInt := by rw [ew49_]
          have t12_ : (x3 + (1 : Int32)).toInt = (x3.toInt + (1 : Int)) := (oi_add (a := x3) (b := (1 : Int32)) rfl (by decide : (1 : Int32).toInt = 1) (by omega) (by omega))
          exact ih u x1 w49_ (x3 + (1 : Int32)) I (by omega) (by omega) (by omega)
        · try have t14_ : (x2 + (1 : Int32)).toInt = (x2.toInt + (1 : Int)) := (oi_add (a := x2) (b := (1 : Int32)) rfl (by decide : (1 : Int32).toInt = 1) (by omega) (by omega))
          refine okk_gl (fun w513_ ew513_ => ?_)
          have t15_ : w513_.toInt = (x2 + (1 : Int32)).toInt := by rw [ew513_]
          have t16_ : (x3 + (1 : Int32)).toInt = (x3.toInt + (1 : Int)) := (oi_add (a := x3) (b := (1 : Int32)) rfl (by decide : (1 : Int32).toInt = 1) (by omega) (by omega))
          exact ih u x1 w513_ (x3 + (1 : Int32)) I (by omega) (by omega) (by omega)
set_option maxHeartbeats 4000000 in
theorem okk_fm_count_50 {g : Nat → Int32} : ∀ (n : Nat) (u : g_S) (x1 : Int32) (x2 : Int32) (x3 : Int32), IM g u → 0 ≤ x3.toInt → x3.toInt ≤ 60 → 61 ≤ (n : Int) + x3.toInt → okk (fm_count_50 n u x1 x2 x3) (fun r => IM g r.2) := by
  intro n
  induction n with
  | zero =>
    intro u x1 x2 x3 I h0 h1 hf
    exfalso; omega
  | succ n ih =>
    intro u x1 x2 x3 I h0 h1 hf
    rw [fm_count_50_s]
    have z1_ := IM_s I
    refine okk_le (fun c2_ c2_I => ?_) (fun c2_ c2_I => ?_)
    · have t3_ : (0 : Int32).toInt = (0 : Int) := (by decide : (0 : Int32).toInt = 0)
      exact okk_fm_count_88 200 u x1 x2 (0 : Int32) I (by omega) (by omega) (by omega)
    · try have t5_ : (2 : Int32).toInt = (2 : Int) := (by decide : (2 : Int32).toInt = 2)
      refine okk_ne (fun c4_ c4_I => ?_) (fun c4_ c4_I => ?_)
      · have t6_ : (0 : Int32).toInt = (0 : Int) := (by decide : (0 : Int32).toInt = 0)
        exact okk_fm_count_88 200 u x1 x2 (0 : Int32) I (by omega) (by omega) (by omega)
      · refine okk_ck (vp_I (by omega) (by omega)) ?_
        try have t8_ : (0 : Int32).toInt = (0 : Int) := (by decide : (0 : Int32).toInt = 0)
        refine okk_ne (fun c7_ c7_I => ?_) (fun c7_ c7_I => ?_)
        · try have t10_ : (x2 + (0 : Int32)).toInt = (x2.toInt + (0 : Int)) := (oi_add (a := x2) (b := (0 : Int32)) rfl (by decide : (0 : Int32).toInt = 0) (by omega) (by omega))
          refine okk_gl (fun w69_ ew69_ => ?_)
          have t11_ : w69_.toInt = (x2 + (0 : Int32)).toInt := by rw [ew69_]
          have t12_ : (x3 + (1 : Int32)).toInt = (x3.toInt + (1 : Int)) := (oi_add (a := x3) (b := (1 : Int32)) rfl (by decide : (1 : Int32).toInt = 1) (by omega) (by omega))
          exact ih u x1 w69_ (x3 + (1 : Int32)) I (by omega) (by omega) (by omega)
        · try have t14_ : (x2 + (1 : Int32)).toInt = (x2.toInt + (1 : Int)) := (oi_add (a := x2) (b := (1 : Int32)) rfl (by decide : (1 : Int32).toInt = 1) (by omega) (by omega))
          refine okk_gl (fun w713_ ew713_ => ?_)
          have t15_ : w713_.toInt = (x2 + (1 : Int32)).toInt := by rw [ew713_]
          have t16_ : (x3 + (1 : Int32)).toInt = (x3.toInt + (1 : Int)) := (oi_add (a := x3) (b := (1 : Int32)) rfl (by decide : (1 : Int32).toInt = 1) (by omega) (by omega))
          exact ih u x1 w713_ (x3 + (1 : Int32)) I (by omega) (by omega) (by omega)
set_option maxHeartbeats 4000000 in
theorem okk_fm_count {g : Nat → Int32} {u : g_S} (I : IM g u) {p1 : Int32} : okk (fm_count u p1) (fun r => IM g r.2) := by
  unfold fm_count
  have z1_ := IM_s I
  try have t2_ : (0 : Int32).toInt = (0 : Int) := (by decide : (0 : Int32).toInt = 0)
  try have t3_ : (3 : Int32).toInt = (3 : Int) := (by decide : (3 : Int32).toInt = 3)
  refine okk_in (fun b4_ => ?_) (fun b4_ => ?_)
  · refine okk_t (by decide) ?_
    unfold fm_count_15
    obtain ⟨u5_, eu5_⟩ : ∃ y, y = g_sI u 0 (0 : Int32) := ⟨_, rfl⟩
    refine okk_bs (v := ((0 : Int32), u5_)) (by rw [eu5_]; exact fm_thr_0 _) ?_
    dsimp only
    have Iu5_ : IM g u5_ := by rw [eu5_]; exact IM_ix I _ (by decide)
    have h06_ : (u5_.1 0).toInt = 0 := by rw [eu5_, rdI, if_pos rfl]; decide
    have z7_ : (u5_.1 1).toInt = (u.1 1).toInt := by rw [eu5_]; rfl
    have z8_ : (u5_.1 2).toInt = (u.1 2).toInt := by rw [eu5_]; rfl
    refine okk_t (by decide) ?_
    try have t10_ : (2 : Int32).toInt = (2 : Int) := (by decide : (2 : Int32).toInt = 2)
    refine okk_le (fun c9_ c9_I => ?_) (fun c9_ c9_I => ?_)
    · have z11_ := IM_s Iu5_
      exact okk_fm_count_50 200 u5_ p1 (0 : Int32) (0 : Int32) Iu5_ (by omega) (by omega) (by omega)
    · refine okk_ne (fun c12_ c12_I => ?_) (fun c12_ c12_I => ?_)
      · exact okk_some (Iu5_)
      · exact okk_some (Iu5_)
  · refine okk_f (by decide) ?_
    unfold fm_count_15
    obtain ⟨u13_, eu13_⟩ : ∃ y, y = g_sI u 0 (1 : Int32) := ⟨_, rfl⟩
    refine okk_bs (v := ((1 : Int32), u13_)) (by rw [eu13_]; exact fm_thr_1 _ _ _) ?_
    dsimp only
    have Iu13_ : IM g u13_ := by rw [eu13_]; exact IM_ix I _ (by decide)
    have h014_ : (u13_.1 0).toInt = 1 := by rw [eu13_, rdI, if_pos rfl]; decide
    have z15_ : (u13_.1 1).toInt = (u.1 1).toInt := by rw [eu13_]; rfl
    have z16_ : (u13_.1 2).toInt = (u.1 2).toInt := by rw [eu13_]; rfl
    refine okk_f (by decide) ?_
    exact okk_some (Iu13_)
