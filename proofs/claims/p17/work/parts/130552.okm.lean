set_option maxHeartbeats 4000000 in
theorem okk_fm_weight {g : Nat → Int32} {u : g_S} (I : IM g u) {p1 : Int32} {p2 : Int32} {p3 : Int32} : okk (fm_weight u p1 p2 p3) (fun r => IM g r ∧ (((r.1 0).toInt = 1 ∧ ¬ (0 ≤ p1.toInt ∧ p1.toInt ≤ 7 ∧ 0 ≤ p2.toInt ∧ p2.toInt ≤ 31)) ∨ ((r.1 0).toInt = 2 ∧ (0 ≤ p1.toInt ∧ p1.toInt ≤ 7 ∧ 0 ≤ p2.toInt ∧ p2.toInt ≤ 31) ∧ ¬ (0 ≤ p3.toInt ∧ p3.toInt ≤ 100)) ∨ ((r.1 0).toInt = 0 ∧ (0 ≤ p1.toInt ∧ p1.toInt ≤ 7 ∧ 0 ≤ p2.toInt ∧ p2.toInt ≤ 31) ∧ (0 ≤ p3.toInt ∧ p3.toInt ≤ 100)))) := by
  unfold fm_weight
  have z1_ := IM_s I
  refine okk_isKind (fun b2_ => ?_) (fun b2_ => ?_)
  · refine okk_f (by decide) ?_
    try have t3_ : (0 : Int32).toInt = (0 : Int) := (by decide : (0 : Int32).toInt = 0)
    try have t4_ : (31 : Int32).toInt = (31 : Int) := (by decide : (31 : Int32).toInt = 31)
    refine okk_in (fun b5_ => ?_) (fun b5_ => ?_)
    · refine okk_t (by decide) ?_
      unfold fm_weight_23
      try have t6_ : (100 : Int32).toInt = (100 : Int) := (by decide : (100 : Int32).toInt = 100)
      refine okk_in (fun b7_ => ?_) (fun b7_ => ?_)
      · refine okk_t (by decide) ?_
        unfold fm_weight_38
        obtain ⟨u8_, eu8_⟩ : ∃ y, y = g_sI u 0 (0 : Int32) := ⟨_, rfl⟩
        refine okk_bs (v := ((0 : Int32), u8_)) (by rw [eu8_]; exact fm_thr_0 _) ?_
        dsimp only
        have Iu8_ : IM g u8_ := by rw [eu8_]; exact IM_ix I _ (by decide)
        have h09_ : (u8_.1 0).toInt = 0 := by rw [eu8_, rdI, if_pos rfl]; decide
        have z10_ : (u8_.1 1).toInt = (u.1 1).toInt := by rw [eu8_]; rfl
        have z11_ : (u8_.1 2).toInt = (u.1 2).toInt := by rw [eu8_]; rfl
        refine okk_t (by decide) ?_
        have t12_ : (((32 : Int32) * p1) + p2).toInt = (((32 : Int) * p1.toInt) + p2.toInt) := (oi_add (a := ((32 : Int32) * p1)) (b := p2) (oi_mul (a := (32 : Int32)) (b := p1) (by decide : (32 : Int32).toInt = 32) rfl (by omega) (by omega)) rfl (by omega) (by omega))
        refine okk_ck (vp_I (by omega) (by omega)) ?_
        refine okk_gl (fun u413_ eu413_ => ?_)
        have Iu413_ : IM g u413_ := by rw [eu413_]; exact IM_wx Iu8_ 4 _ _ rfl rfl (by decide)
        have z14_ : (u413_.1 0).toInt = (u8_.1 0).toInt := by rw [eu413_]; rfl
        have z15_ : (u413_.1 1).toInt = (u8_.1 1).toInt := by rw [eu413_]; rfl
        have z16_ : (u413_.1 2).toInt = (u8_.1 2).toInt := by rw [eu413_]; rfl
        exact okk_some (⟨Iu413_, (by show ((u413_.1 0).toInt = 1 ∧ ¬ (0 ≤ p1.toInt ∧ p1.toInt ≤ 7 ∧ 0 ≤ p2.toInt ∧ p2.toInt ≤ 31)) ∨ ((u413_.1 0).toInt = 2 ∧ (0 ≤ p1.toInt ∧ p1.toInt ≤ 7 ∧ 0 ≤ p2.toInt ∧ p2.toInt ≤ 31) ∧ ¬ (0 ≤ p3.toInt ∧ p3.toInt ≤ 100)) ∨ ((u413_.1 0).toInt = 0 ∧ (0 ≤ p1.toInt ∧ p1.toInt ≤ 7 ∧ 0 ≤ p2.toInt ∧ p2.toInt ≤ 31) ∧ (0 ≤ p3.toInt ∧ p3.toInt ≤ 100)); omega)⟩)
      · refine okk_f (by decide) ?_
        unfold fm_weight_38
        obtain ⟨u17_, eu17_⟩ : ∃ y, y = g_sI u 0 (2 : Int32) := ⟨_, rfl⟩
        refine okk_bs (v := ((1 : Int32), u17_)) (by rw [eu17_]; exact fm_thr_2 _ _) ?_
        dsimp only
        have Iu17_ : IM g u17_ := by rw [eu17_]; exact IM_ix I _ (by decide)
        have h018_ : (u17_.1 0).toInt = 2 := by rw [eu17_, rdI, if_pos rfl]; decide
        have z19_ : (u17_.1 1).toInt = (u.1 1).toInt := by rw [eu17_]; rfl
        have z20_ : (u17_.1 2).toInt = (u.1 2).toInt := by rw [eu17_]; rfl
        refine okk_f (by decide) ?_
        exact okk_some (⟨Iu17_, (by show ((u17_.1 0).toInt = 1 ∧ ¬ (0 ≤ p1.toInt ∧ p1.toInt ≤ 7 ∧ 0 ≤ p2.toInt ∧ p2.toInt ≤ 31)) ∨ ((u17_.1 0).toInt = 2 ∧ (0 ≤ p1.toInt ∧ p1.toInt ≤ 7 ∧ 0 ≤ p2.toInt ∧ p2.toInt ≤ 31) ∧ ¬ (0 ≤ p3.toInt ∧ p3.toInt ≤ 100)) ∨ ((u17_.1 0).toInt = 0 ∧ (0 ≤ p1.toInt ∧ p1.toInt ≤ 7 ∧ 0 ≤ p2.toInt ∧ p2.toInt ≤ 31) ∧ (0 ≤ p3.toInt ∧ p3.toInt ≤ 100)); omega)⟩)
    · refine okk_f (by decide) ?_
      unfold fm_weight_23
      try have t21_ : (100 : Int32).toInt = (100 : Int) := (by decide : (100 : Int32).toInt = 100)
      refine okk_in (fun b22_ => ?_) (fun b22_ => ?_)
      · refine okk_t (by decide) ?_
        unfold fm_weight_38
        obtain ⟨u23_, eu23_⟩ : ∃ y, y = g_sI u 0 (1 : Int32) := ⟨_, rfl⟩
        refine okk_bs (v := ((1 : Int32), u23_)) (by rw [eu23_]; exact fm_thr_1 _ _ _) ?_
        dsimp only
        have Iu23_ : IM g u23_ := by rw [eu23_]; exact IM_ix I _ (by decide)
        have h024_ : (u23_.1 0).toInt = 1 := by rw [eu23_, rdI, if_pos rfl]; decide
        have z25_ : (u23_.1 1).toInt = (u.1 1).toInt := by rw [eu23_]; rfl
        have z26_ : (u23_.1 2).toInt = (u.1 2).toInt := by rw [eu23_]; rfl
        refine okk_f (by decide) ?_
        exact okk_some (⟨Iu23_, (by show ((u23_.1 0).toInt = 1 ∧ ¬ (0 ≤ p1.toInt ∧ p1.toInt ≤ 7 ∧ 0 ≤ p2.toInt ∧ p2.toInt ≤ 31)) ∨ ((u23_.1 0).toInt = 2 ∧ (0 ≤ p1.toInt ∧ p1.toInt ≤ 7 ∧ 0 ≤ p2.toInt ∧ p2.toInt ≤ 31) ∧ ¬ (0 ≤ p3.toInt ∧ p3.toInt ≤ 100)) ∨ ((u23_.1 0).toInt = 0 ∧ (0 ≤ p1.toInt ∧ p1.toInt ≤ 7 ∧ 0 ≤ p2.toInt ∧ p2.toInt ≤ 31) ∧ (0 ≤ p3.toInt ∧ p3.toInt ≤ 100)); omega)⟩)
      · refine okk_f (by decide) ?_
        unfold fm_weight_38
        obtain ⟨u27_, eu27_⟩ : ∃ y, y = g_sI u 0 (1 : Int32) := ⟨_, rfl⟩
        refine okk_bs (v := ((1 : Int32), u27_)) (by rw [eu27_]; exact fm_thr_1 _ _ _) ?_
        dsimp only
        have Iu27_ : IM g u27_ := by rw [eu27_]; exact IM_ix I _ (by decide)
        have h028_ : (u27_.1 0).toInt = 1 := by rw [eu27_, rdI, if_pos rfl]; decide
        have z29_ : (u27_.1 1).toInt = (u.1 1).toInt := by rw [eu27_]; rfl
        have z30_ : (u27_.1 2).toInt = (u.1 2).toInt := by rw [eu27_]; rfl
        refine okk_f (by decide) ?_
        exact okk_some (⟨Iu27_, (by show ((u27_.1 0).toInt = 1 ∧ ¬ (0 ≤ p1.toInt ∧ p1.toInt ≤ 7 ∧ 0 ≤ p2.toInt ∧ p2.toInt ≤ 31)) ∨ ((u27_.1 0).toInt = 2 ∧ (0 ≤ p1.toInt ∧ p1.toInt ≤ 7 ∧ 0 ≤ p2.toInt ∧ p2.toInt ≤ 31) ∧ ¬ (0 ≤ p3.toInt ∧ p3.toInt ≤ 100)) ∨ ((u27_.1 0).toInt = 0 ∧ (0 ≤ p1.toInt ∧ p1.toInt ≤ 7 ∧ 0 ≤ p2.toInt ∧ p2.toInt ≤ 31) ∧ (0 ≤ p3.toInt ∧ p3.toInt ≤ 100)); omega)⟩)
  · refine okk_t (by decide) ?_
    unfold fm_weight_23
    try have t31_ : (0 : Int32).toInt = (0 : Int) := (by decide : (0 : Int32).toInt = 0)
    try have t32_ : (100 : Int32).toInt = (100 : Int) := (by decide : (100 : Int32).toInt = 100)
    refine okk_in (fun b33_ => ?_) (fun b33_ => ?_)
    · refine okk_t (by decide) ?_
      unfold fm_weight_38
      obtain ⟨u34_, eu34_⟩ : ∃ y, y = g_sI u 0 (1 : Int32) := ⟨_, rfl⟩
      refine okk_bs (v := ((1 : Int32), u34_)) (by rw [eu34_]; exact fm_thr_1 _ _ _) ?_
      dsimp only
      have Iu34_ : IM g u34_ := by rw [eu34_]; exact IM_ix I _ (by decide)
      have h035_ : (u34_.1 0).toInt = 1 := by rw [eu34_, rdI, if_pos rfl]; decide
      have z36_ : (u34_.1 1).toInt = (u.1 1).toInt := by rw [eu34_]; rfl
      have z37_ : (u34_.1 2).toInt = (u.1 2).toInt := by rw [eu34_]; rfl
      refine okk_f (by decide) ?_
      exact okk_some (⟨Iu34_, (by show ((u34_.1 0).toInt = 1 ∧ ¬ (0 ≤ p1.toInt ∧ p1.toInt ≤ 7 ∧ 0 ≤ p2.toInt ∧ p2.toInt ≤ 31)) ∨ ((u34_.1 0).toInt = 2 ∧ (0 ≤ p1.toInt ∧ p1.toInt ≤ 7 ∧ 0 ≤ p2.toInt ∧ p2.toInt ≤ 31) ∧ ¬ (0 ≤ p3.toInt ∧ p3.toInt ≤ 100)) ∨ ((u34_.1 0).toInt = 0 ∧ (0 ≤ p1.toInt ∧ p1.toInt ≤ 7 ∧ 0 ≤ p2.toInt ∧ p2.toInt ≤ 31) ∧ (0 ≤ p3.toInt ∧ p3.toInt ≤ 100)); omega)⟩)
    · refine okk_f (by decide) ?_
      unfold fm_weight_38
      obtain ⟨u38_, eu38_⟩ : ∃ y, y = g_sI u 0 (1 : Int32) := ⟨_, rfl⟩
      refine okk_bs (v := ((1 : Int32), u38_)) (by rw [eu38_]; exact fm_thr_1 _ _ _) ?_
      dsimp only
      have Iu38_ : IM g u38_ := by rw [eu38_]; exact IM_ix I _ (by decide)
      have h039_ : (u38_.1 0).toInt = 1 := by rw [eu38_, rdI, if_pos rfl]; decide
      have z40_ : (u38_.1 1).toInt = (u.1 1).toInt := by rw [eu38_]; rfl
      have z41_ : (u38_.1 2).toInt = (u.1 2).toInt := by rw [eu38_]; rfl
      refine okk_f (by decide) ?_
      exact okk_some (⟨Iu38_, (by show ((u38_.1 0).toInt = 1 ∧ ¬ (0 ≤ p1.toInt ∧ p1.toInt ≤ 7 ∧ 0 ≤ p2.toInt ∧ p2.toInt ≤ 31)) ∨ ((u38_.1 0).toInt = 2 ∧ (0 ≤ p1.toInt ∧ p1.toInt ≤ 7 ∧ 0 ≤ p2.toInt ∧ p2.toInt ≤ 31) ∧ ¬ (0 ≤ p3.toInt ∧ p3.toInt ≤ 100)) ∨ ((u38_.1 0).toInt = 0 ∧ (0 ≤ p1.toInt ∧ p1.toInt ≤ 7 ∧ 0 ≤ p2.toInt ∧ p2.toInt ≤ 31) ∧ (0 ≤ p3.toInt ∧ p3.toInt ≤ 100)); omega)⟩)
set_option maxHeartbeats 4000000 in
theorem okk_fm_mark {g : Nat → Int32} {u : g_S} (I : IM g u) {p1 : Int32} {p2 : Int32} : okk (fm_mark u p1 p2) (fun r => IM g r) := by
  unfold fm_mark
  have z1_ := IM_s I
  refine okk_isCall (fun b2_ => ?_) (fun b2_ => ?_)
  · have t3_ : ((u.1 1) - (1 : Int32)).toInt = ((u.1 1).toInt - (1 : Int)) := (oi_sub (a := (u.1 1)) (b := (1 : Int32)) rfl (by decide : (1 : Int32).toInt = 1) (by omega) (by omega))
    refine okk_t (by decide) ?_
    unfold fm_mark_14
    try have t4_ : (0 : Int32).toInt = (0 : Int) := (by decide : (0 : Int32).toInt = 0)
    try have t5_ : (7 : Int32).toInt = (7 : Int) := (by decide : (7 : Int32).toInt = 7)
    refine okk_in (fun b6_ => ?_) (fun b6_ => ?_)
    · refine okk_t (by decide) ?_
      unfold fm_mark_29
      obtain ⟨u7_, eu7_⟩ : ∃ y, y = g_sI u 0 (0 : Int32) := ⟨_, rfl⟩
      refine okk_bs (v := ((0 : Int32), u7_)) (by rw [eu7_]; exact fm_thr_0 _) ?_
      dsimp only
      have Iu7_ : IM g u7_ := by rw [eu7_]; exact IM_ix I _ (by decide)
      have h08_ : (u7_.1 0).toInt = 0 := by rw [eu7_, rdI, if_pos rfl]; decide
      have z9_ : (u7_.1 1).toInt = (u.1 1).toInt := by rw [eu7_]; rfl
      have z10_ : (u7_.1 2).toInt = (u.1 2).toInt := by rw [eu7_]; rfl
      refine okk_t (by decide) ?_
      refine okk_ck (vp_I (by omega) (by omega)) ?_
      refine okk_gl (fun u411_ eu411_ => ?_)
      have Iu411_ : IM g u411_ := by rw [eu411_]; exact IM_wx Iu7_ 14 _ _ rfl rfl (by decide)
      have z12_ : (u411_.1 0).toInt = (u7_.1 0).toInt := by rw [eu411_]; rfl
      have z13_ : (u411_.1 1).toInt = (u7_.1 1).toInt := by rw [eu411_]; rfl
      have z14_ : (u411_.1 2).toInt = (u7_.1 2).toInt := by rw [eu411_]; rfl
      exact okk_some (Iu411_)
    · refine okk_f (by decide) ?_
      unfold fm_mark_29
      obtain ⟨u15_, eu15_⟩ : ∃ y, y = g_sI u 0 (2 : Int32) := ⟨_, rfl⟩
      refine okk_bs (v := ((1 : Int32), u15_)) (by rw [eu15_]; exact fm_thr_2 _ _) ?_
      dsimp only
      have Iu15_ : IM g u15_ := by rw [eu15_]; exact IM_ix I _ (by decide)
      have h016_ : (u15_.1 0).toInt = 2 := by rw [eu15_, rdI, if_pos rfl]; decide
      have z17_ : (u15_.1 1).toInt = (u.1 1).toInt := by rw [eu15_]; rfl
      have z18_ : (u15_.1 2).toInt = (u.1 2).toInt := by rw [eu15_]; rfl
      refine okk_f (by decide) ?_
      exact okk_some (Iu15_)
  · have t19_ : ((u.1 1) - (1 : Int32)).toInt = ((u.1 1).toInt - (1 : Int)) := (oi_sub (a := (u.1 1)) (b := (1 : Int32)) rfl (by decide : (1 : Int32).toInt = 1) (by omega) (by omega))
    refine okk_f (by decide) ?_
    unfold fm_mark_14
    try have t20_ : (0 : Int32).toInt = (0 : Int) := (by decide : (0 : Int32).toInt = 0)
    try have t21_ : (7 : Int32).toInt = (7 : Int) := (by decide : (7 : Int32).toInt = 7)
    refine okk_in (fun b22_ => ?_) (fun b22_ => ?_)
    · refine okk_t (by decide) ?_
      unfold fm_mark_29
      obtain ⟨u23_, eu23_⟩ : ∃ y, y = g_sI u 0 (1 : Int32) := ⟨_, rfl⟩
      refine okk_bs (v := ((1 : Int32), u23_)) (by rw [eu23_]; exact fm_thr_1 _ _ _) ?_
      dsimp only
      have Iu23_ : IM g u23_ := by rw [eu23_]; exact IM_ix I _ (by decide)
      have h024_ : (u23_.1 0).toInt = 1 := by rw [eu23_, rdI, if_pos rfl]; decide
      have z25_ : (u23_.1 1).toInt = (u.1 1).toInt := by rw [eu23_]; rfl
      have z26_ : (u23_.1 2).toInt = (u.1 2).toInt := by rw [eu23_]; rfl
      refine okk_f (by decide) ?_
      exact okk_some (Iu23_)
    · refine okk_f (by decide) ?_
      unfold fm_mark_29
      obtain ⟨u27_, eu27_⟩ : ∃ y, y = g_sI u 0 (1 : Int32) := ⟨_, rfl⟩
      refine okk_bs (v := ((1 : Int32), u27_)) (by rw [eu27_]; exact fm_thr_1 _ _ _) ?_
      dsimp only
      have Iu27_ : IM g u27_ := by rw [eu27_]; exact IM_ix I _ (by decide)
      have h028_ : (u27_.1 0).toInt = 1 := by rw [eu27_, rdI, if_pos rfl]; decide
      have z29_ : (u27_.1 1).toInt = (u.1 1).toInt := by rw [eu27_]; rfl
      have z30_ : (u27_.1 2).toInt = (u.1 2).toInt := by rw [eu27_]; rfl
      refine okk_f (by decide) ?_
      exact okk_some (Iu27_)
set_option maxHeartbeats 4000000 in
theorem okk_fm_watch {g : Nat → Int32} {u : g_S} (I : IM g u) {p1 : Int32} {p2 : Int32} {p3 : Int32} {p4 : Int32} : okk (fm_watch u p1 p2 p3 p4) (fun r => IM g r) := by
  unfold fm_watch
  have z1_ := IM_s I
  refine okk_isEvent (fun b2_ => ?_) (fun b2_ => ?_)
  · have t3_ : ((u.1 2) - (1 : Int32)).toInt = ((u.1 2).toInt - (1 : Int)) := (oi_sub (a := (u.1 2)) (b := (1 : Int32)) rfl (by decide : (1 : Int32).toInt = 1) (by omega) (by omega))
    refine okk_f (by decide) ?_
    refine okk_isRoad (fun b4_ => ?_) (fun b4_ => ?_)
    · refine okk_f (by decide) ?_
      unfold fm_watch_20
      refine okk_f (by decide) ?_
      refine okk_ck (vp_I (by omega) (by omega)) ?_
      try have t5_ : (0 : Int32).toInt = (0 : Int) := (by decide : (0 : Int32).toInt = 0)
      have r6_ := IM_r5 I p2.toNatClampNeg
      try have t7_ : ((u.2 5 p2.toNatClampNeg) - (1 : Int32)).toInt = ((u.2 5 p2.toNatClampNeg).toInt - (1 : Int)) := (oi_sub (a := (u.2 5 p2.toNatClampNeg)) (b := (1 : Int32)) rfl (by decide : (1 : Int32).toInt = 1) (by omega) (by omega))
      refine okk_in (fun b8_ => ?_) (fun b8_ => ?_)
      · refine okk_f (by decide) ?_
        refine okk_ck (vp_I (by omega) (by omega)) ?_
        refine okk_in (fun b9_ => ?_) (fun b9_ => ?_)
        · refine okk_f (by decide) ?_
          refine okk_eq (fun c10_ c10_I => ?_) (fun c10_ c10_I => ?_)
          · unfold fm_watch_71
            refine okk_t (by decide) ?_
            refine okk_f (by decide) ?_
            unfold fm_watch_94
            refine okk_f (by decide) ?_
            refine okk_ck (vp_I (by omega) (by omega)) ?_
            refine okk_eq (fun c11_ c11_I => ?_) (fun c11_ c11_I => ?_)
            · unfold fm_watch_113
              obtain ⟨u12_, eu12_⟩ : ∃ y, y = g_sI u 0 (2 : Int32) := ⟨_, rfl⟩
              refine okk_bs (v := ((1 : Int32), u12_)) (by rw [eu12_]; exact fm_thr_2 _ _) ?_
              dsimp only
              have Iu12_ : IM g u12_ := by rw [eu12_]; exact IM_ix I _ (by decide)
              have h013_ : (u12_.1 0).toInt = 2 := by rw [eu12_, rdI, if_pos rfl]; decide
              have z14_ : (u12_.1 1).toInt = (u.1 1).toInt := by rw [eu12_]; rfl
              have z15_ : (u12_.1 2).toInt = (u.1 2).toInt := by rw [eu12_]; rfl
              refine okk_f (by decide) ?_
              exact okk_some (Iu12_)
            · unfold fm_watch_113
              obtain ⟨u16_, eu16_⟩ : ∃ y, y = g_sI u 0 (2 : Int32) := ⟨_, rfl⟩
              refine okk_bs (v := ((1 : Int32), u16_)) (by rw [eu16_]; exact fm_thr_2 _ _) ?_
              dsimp only
              have Iu16_ : IM g u16_ := by rw [eu16_]; exact IM_ix I _ (by decide)
              have h017_ : (u16_.1 0).toInt = 2 := by rw [eu16_, rdI, if_pos rfl]; decide
              have z18_ : (u16_.1 1).toInt = (u.1 1).toInt := by rw [eu16_]; rfl
              have z19_ : (u16_.1 2).toInt = (u.1 2).toInt := by rw [eu16_]; rfl
              refine okk_f (by decide) ?_
              exact okk_some (Iu16_)
          · unfold fm_watch_71
            refine okk_t (by decide) ?_
            refine okk_t (by decide) ?_
            unfold fm_watch_94
            refine okk_f (by decide) ?_
            refine okk_ck (vp_I (by omega) (by omega)) ?_
            refine okk_eq (fun c20_ c20_I => ?_) (fun c20_ c20_I => ?_)
            · unfold fm_watch_113
              obtain ⟨u21_, eu21_⟩ : ∃ y, y = g_sI u 0 (0 : Int32) := ⟨_, rfl⟩
              refine okk_bs (v := ((0 : Int32), u21_)) (by rw [eu21_]; exact fm_thr_0 _) ?_
              dsimp only
              have Iu21_ : IM g u21_ := by rw [eu21_]; exact IM_ix I _ (by decide)
              have h022_ : (u21_.1 0).toInt = 0 := by rw [eu21_, rdI, if_pos rfl]; decide
              have z23_ : (u21_.1 1).toInt = (u.1 1).toInt := by rw [eu21_]; rfl
              have z24_ : (u21_.1 2).toInt = (u.1 2).toInt := by rw [eu21_]; rfl
              refine okk_t (by decide) ?_
              refine okk_ck (vp_I (by omega) (by omega)) ?_
              refine okk_gl (fun u325_ eu325_ => ?_)
              have Iu325_ : IM g u325_ := by rw [eu325_]; exact IM_v17 Iu21_ _ _ (by omega) (by omega)
              have z26_ : (u325_.1 0).toInt = (u21_.1 0).toInt := by rw [eu325_]; rfl
              have z27_ : (u325_.1 1).toInt = (u21_.1 1).toInt := by rw [eu325_]; rfl
              have z28_ : (u325_.1 2).toInt = (u21_.1 2).toInt := by rw [eu325_]; rfl
              refine okk_ck (vp_I (by omega) (by omega)) ?_
              refine okk_gl (fun u429_ eu429_ => ?_)
              have Iu429_ : IM g u429_ := by rw [eu429_]; exact IM_v18 Iu325_ _ _ (by omega) (by omega)
              have z30_ : (u429_.1 0).toInt = (u325_.1 0).toInt := by rw [eu429_]; rfl
              have z31_ : (u429_.1 1).toInt = (u325_.1 1).toInt := by rw [eu429_]; rfl
              have z32_ : (u429_.1 2).toInt = (u325_.1 2).toInt := by rw [eu429_]; rfl
              refine okk_ck (vp_I (by omega) (by omega)) ?_
              refine okk_gl (fun u533_ eu533_ => ?_)
              have Iu533_ : IM g u533_ := by rw [eu533_]; exact IM_v19 Iu429_ _ _ (by omega) (by omega)
              have z34_ : (u533_.1 0).toInt = (u429_.1 0).toInt := by rw [eu533_]; rfl
              have z35_ : (u533_.1 1).toInt = (u429_.1 1).toInt := by rw [eu533_]; rfl
              have z36_ : (u533_.1 2).toInt = (u429_.1 2).toInt := by rw [eu533_]; rfl
              exact okk_some (Iu533_)
            · unfold fm_watch_113
              obtain ⟨u37_, eu37_⟩ : ∃ y, y = g_sI u 0 (3 : Int32) := ⟨_, rfl⟩
              refine okk_bs (v := ((1 : Int32), u37_)) (by rw [eu37_]; exact fm_thr_3 _) ?_
              dsimp only
              have Iu37_ : IM g u37_ := by rw [eu37_]; exact IM_ix I _ (by decide)
              have h038_ : (u37_.1 0).toInt = 3 := by rw [eu37_, rdI, if_pos rfl]; decide
              have z39_ : (u37_.1 1).toInt = (u.1 1).toInt := by rw [eu37_]; rfl
              have z40_ : (u37_.1 2).toInt = (u.1 2).toInt := by rw [eu37_]; rfl
              refine okk_f (by decide) ?_
              exact okk_some (Iu37_)
        · refine okk_t (by decide) ?_
          unfold fm_watch_71
          refine okk_t (by decide) ?_
          refine okk_f (by decide) ?_
          unfold fm_watch_94
          refine okk_f (by decide) ?_
          refine okk_ck (vp_I (by omega) (by omega)) ?_
          refine okk_eq (fun c41_ c41_I => ?_) (fun c41_ c41_I => ?_)
          · unfold fm_watch_113
            obtain ⟨u42_, eu42_⟩ : ∃ y, y = g_sI u 0 (2 : Int32) := ⟨_, rfl⟩
            refine okk_bs (v := ((1 : Int32), u42_)) (by rw [eu42_]; exact fm_thr_2 _ _) ?_
            dsimp only
            have Iu42_ : IM g u42_ := by rw [eu42_]; exact IM_ix I _ (by decide)
            have h043_ : (u42_.1 0).toInt = 2 := by rw [eu42_, rdI, if_pos rfl]; decide
            have z44_ : (u42_.1 1).toInt = (u.1 1).toInt := by rw [eu42_]; rfl
            have z45_ : (u42_.1 2).toInt = (u.1 2).toInt := by rw [eu42_]; rfl
            refine okk_f (by decide) ?_
            exact okk_some (Iu42_)
          · unfold fm_watch_113
            obtain ⟨u46_, eu46_⟩ : ∃ y, y = g_sI u 0 (2 : Int32) := ⟨_, rfl⟩
            refine okk_bs (v := ((1 : Int32), u46_)) (by rw [eu46_]; exact fm_thr_2 _ _) ?_
            dsimp only
            have Iu46_ : IM g u46_ := by rw [eu46_]; exact IM_ix I _ (by decide)
            have h047_ : (u46_.1 0).toInt = 2 := by rw [eu46_, rdI, if_pos rfl]; decide
            have z48_ : (u46_.1 1).toInt = (u.1 1).toInt := by rw [eu46_]; rfl
            have z49_ : (u46_.1 2).toInt = (u.1 2).toInt := by rw [eu46_]; rfl
            refine okk_f (by decide) ?_
            exact okk_some (Iu46_)
      · refine okk_t (by decide) ?_
        unfold fm_watch_71
        refine okk_t (by decide) ?_
        refine okk_f (by decide) ?_
        unfold fm_watch_94
        refine okk_f (by decide) ?_
        refine okk_ck (vp_I (by omega) (by omega)) ?_
        refine okk_eq (fun c50_ c50_I => ?_) (fun c50_ c50_I => ?_)
        · unfold fm_watch_113
          obtain ⟨u51_, eu51_⟩ : ∃ y, y = g_sI u 0 (2 : Int32) := ⟨_, rfl⟩
          refine okk_bs (v := ((1 : Int32), u51_)) (by rw [eu51_]; exact fm_thr_2 _ _) ?_
          dsimp only
          have Iu51_ : IM g u51_ := by rw [eu51_]; exact IM_ix I _ (by decide)
          have h052_ : (u51_.1 0).toInt = 2 := by rw [eu51_, rdI, if_pos rfl]; decide
          have z53_ : (u51_.1 1).toInt = (u.1 1).toInt := by rw [eu51_]; rfl
          have z54_ : (u51_.1 2).toInt = (u.1 2).toInt := by rw [eu51_]; rfl
          refine okk_f (by decide) ?_
          exact okk_some (Iu51_)
        · unfold fm_watch_113
          obtain ⟨u55_, eu55_⟩ : ∃ y, y = g_sI u 0 (2 : Int32) := ⟨_, rfl⟩
          refine okk_bs (v := ((1 : Int32), u55_)) (by rw [eu55_]; exact fm_thr_2 _ _) ?_
          dsimp only
          have Iu55_ : IM g u55_ := by rw [eu55_]; exact IM_ix I _ (by decide)
          have h056_ : (u55_.1 0).toInt = 2 := by rw [eu55_, rdI, if_pos rfl]; decide
          have z57_ : (u55_.1 1).toInt = (u.1 1).toInt := by rw [eu55_]; rfl
          have z58_ : (u55_.1 2).toInt = (u.1 2).toInt := by rw [eu55_]; rfl
          refine okk_f (by decide) ?_
          exact okk_some (Iu55_)
    · refine okk_t (by decide) ?_
      unfold fm_watch_20
      refine okk_t (by decide) ?_
      unfold fm_watch_71
      refine okk_f (by decide) ?_
      refine okk_f (by decide) ?_
      unfold fm_watch_94
      refine okk_t (by decide) ?_
      unfold fm_watch_113
      obtain ⟨u59_, eu59_⟩ : ∃ y, y = g_sI u 0 (1 : Int32) := ⟨_, rfl⟩
      refine okk_bs (v := ((1 : Int32), u59_)) (by rw [eu59_]; exact fm_thr_1 _ _ _) ?_
      dsimp only
      have Iu59_ : IM g u59_ := by rw [eu59_]; exact IM_ix I _ (by decide)
      have h060_ : (u59_.1 0).toInt = 1 := by rw [eu59_, rdI, if_pos rfl]; decide
      have z61_ : (u59_.1 1).toInt = (u.1 1).toInt := by rw [eu59_]; rfl
      have z62_ : (u59_.1 2).toInt = (u.1 2).toInt := by rw [eu59_]; rfl
      refine okk_f (by decide) ?_
      exact okk_some (Iu59_)
  · have t63_ : ((u.1 2) - (1 : Int32)).toInt = ((u.1 2).toInt - (1 : Int)) := (oi_sub (a := (u.1 2)) (b := (1 : Int32)) rfl (by decide : (1 : Int32).toInt = 1) (by omega) (by omega))
    refine okk_t (by decide) ?_
    unfold fm_watch_20
    refine okk_t (by decide) ?_
    unfold fm_watch_71
    refine okk_f (by decide) ?_
    refine okk_f (by decide) ?_
    unfold fm_watch_94
    refine okk_t (by decide) ?_
    unfold fm_watch_113
    obtain ⟨u64_, eu64_⟩ : ∃ y, y = g_sI u 0 (1 : Int32) := ⟨_, rfl⟩
    refine okk_bs (v := ((1 : Int32), u64_)) (by rw [eu64_]; exact fm_thr_1 _ _ _) ?_
    dsimp only
    have Iu64_ : IM g u64_ := by rw [eu64_]; exact IM_ix I _ (by decide)
    have h065_ : (u64_.1 0).toInt = 1 := by rw [eu64_, rdI, if_pos rfl]; decide
    have z66_ : (u64_.1 1).toInt = (u.1 1).toInt := by rw [eu64_]; rfl
    have z67_ : (u64_.1 2).toInt = (u.1 2).toInt := by rw [eu64_]; rfl
    refine okk_f (by decide) ?_
    exact okk_some (Iu64_)
set_option maxHeartbeats 4000000 in
theorem okk_fm_state {g : Nat → Int32} {u : g_S} (I : IM g u) {p1 : Int32} {p2 : Int32} : okk (fm_state u p1 p2) (fun r => IM g r) := by
  unfold fm_state
  have z1_ := IM_s I
  refine okk_isEvent (fun b2_ => ?_) (fun b2_ => ?_)
  · have t3_ : ((u.1 2) - (1 : Int32)).toInt = ((u.1 2).toInt - (1 : Int)) := (oi_sub (a := (u.1 2)) (b := (1 : Int32)) rfl (by decide : (1 : Int32).toInt = 1) (by omega) (by omega))
    refine okk_t (by decide) ?_
    unfold fm_state_16
    try have t4_ : (0 : Int32).toInt = (0 : Int) := (by decide : (0 : Int32).toInt = 0)
    try have t5_ : (2 : Int32).toInt = (2 : Int) := (by decide : (2 : Int32).toInt = 2)
    refine okk_in (fun b6_ => ?_) (fun b6_ => ?_)
    · refine okk_t (by decide) ?_
      unfold fm_state_30
      refine okk_f (by decide) ?_
      refine okk_ck (vp_I (by omega) (by omega)) ?_
      refine okk_eq (fun c7_ c7_I => ?_) (fun c7_ c7_I => ?_)
      · unfold fm_state_59
        obtain ⟨u8_, eu8_⟩ : ∃ y, y = g_sI u 0 (3 : Int32) := ⟨_, rfl⟩
        refine okk_bs (v := ((1 : Int32), u8_)) (by rw [eu8_]; exact fm_thr_3 _) ?_
        dsimp only
        have Iu8_ : IM g u8_ := by rw [eu8_]; exact IM_ix I _ (by decide)
        have h09_ : (u8_.1 0).toInt = 3 := by rw [eu8_, rdI, if_pos rfl]; decide
        have z10_ : (u8_.1 1).toInt = (u.1 1).toInt := by rw [eu8_]; rfl
        have z11_ : (u8_.1 2).toInt = (u.1 2).toInt := by rw [eu8_]; rfl
        refine okk_f (by decide) ?_
        exact okk_some (Iu8_)
      · refine okk_ck (vp_I (by omega) (by omega)) ?_
        try have t13_ : (3 : Int32).toInt = (3 : Int) := (by decide : (3 : Int32).toInt = 3)
        refine okk_ne (fun c12_ c12_I => ?_) (fun c12_ c12_I => ?_)
        · unfold fm_state_59
          obtain ⟨u14_, eu14_⟩ : ∃ y, y = g_sI u 0 (0 : Int32) := ⟨_, rfl⟩
          refine okk_bs (v := ((0 : Int32), u14_)) (by rw [eu14_]; exact fm_thr_0 _) ?_
          dsimp only
          have Iu14_ : IM g u14_ := by rw [eu14_]; exact IM_ix I _ (by decide)
          have h015_ : (u14_.1 0).toInt = 0 := by rw [eu14_, rdI, if_pos rfl]; decide
          have z16_ : (u14_.1 1).toInt = (u.1 1).toInt := by rw [eu14_]; rfl
          have z17_ : (u14_.1 2).toInt = (u.1 2).toInt := by rw [eu14_]; rfl
          refine okk_t (by decide) ?_
          refine okk_ck (vp_I (by omega) (by omega)) ?_
          refine okk_gl (fun u418_ eu418_ => ?_)
          have Iu418_ : IM g u418_ := by rw [eu418_]; exact IM_w16 Iu14_ _ _ (Or.inr (by rw [eu14_]; exact c12_))
          have z19_ : (u418_.1 0).toInt = (u14_.1 0).toInt := by rw [eu418_]; rfl
          have z20_ : (u418_.1 1).toInt = (u14_.1 1).toInt := by rw [eu418_]; rfl
          have z21_ : (u418_.1 2).toInt = (u14_.1 2).toInt := by rw [eu418_]; rfl
          exact okk_some (Iu418_)
        · unfold fm_state_59
          obtain ⟨u22_, eu22_⟩ : ∃ y, y = g_sI u 0 (3 : Int32) := ⟨_, rfl⟩
          refine okk_bs (v := ((1 : Int32), u22_)) (by rw [eu22_]; exact fm_thr_3 _) ?_
          dsimp only
          have Iu22_ : IM g u22_ := by rw [eu22_]; exact IM_ix I _ (by decide)
          have h023_ : (u22_.1 0).toInt = 3 := by rw [eu22_, rdI, if_pos rfl]; decide
          have z24_ : (u22_.1 1).toInt = (u.1 1).toInt := by rw [eu22_]; rfl
          have z25_ : (u22_.1 2).toInt = (u.1 2).toInt := by rw [eu22_]; rfl
          refine okk_f (by decide) ?_
          exact okk_some (Iu22_)
    · refine okk_f (by decide) ?_
      unfold fm_state_30
      refine okk_f (by decide) ?_
      refine okk_ck (vp_I (by omega) (by omega)) ?_
      refine okk_eq (fun c26_ c26_I => ?_) (fun c26_ c26_I => ?_)
      · unfold fm_state_59
        obtain ⟨u27_, eu27_⟩ : ∃ y, y = g_sI u 0 (2 : Int32) := ⟨_, rfl⟩
        refine okk_bs (v := ((1 : Int32), u27_)) (by rw [eu27_]; exact fm_thr_2 _ _) ?_
        dsimp only
        have Iu27_ : IM g u27_ := by rw [eu27_]; exact IM_ix I _ (by decide)
        have h028_ : (u27_.1 0).toInt = 2 := by rw [eu27_, rdI, if_pos rfl]; decide
        have z29_ : (u27_.1 1).toInt = (u.1 1).toInt := by rw [eu27_]; rfl
        have z30_ : (u27_.1 2).toInt = (u.1 2).toInt := by rw [eu27_]; rfl
        refine okk_f (by decide) ?_
        exact okk_some (Iu27_)
      · refine okk_ck (vp_I (by omega) (by omega)) ?_
        try have t32_ : (3 : Int32).toInt = (3 : Int) := (by decide : (3 : Int32).toInt = 3)
        refine okk_ne (fun c31_ c31_I => ?_) (fun c31_ c31_I => ?_)
        · unfold fm_state_59
          obtain ⟨u33_, eu33_⟩ : ∃ y, y = g_sI u 0 (2 : Int32) := ⟨_, rfl⟩
          refine okk_bs (v := ((1 : Int32), u33_)) (by rw [eu33_]; exact fm_thr_2 _ _) ?_
          dsimp only
          have Iu33_ : IM g u33_ := by rw [eu33_]; exact IM_ix I _ (by decide)
          have h034_ : (u33_.1 0).toInt = 2 := by rw [eu33_, rdI, if_pos rfl]; decide
          have z35_ : (u33_.1 1).toInt = (u.1 1).toInt := by rw [eu33_]; rfl
          have z36_ : (u33_.1 2).toInt = (u.1 2).toInt := by rw [eu33_]; rfl
          refine okk_f (by decide) ?_
          exact okk_some (Iu33_)
        · unfold fm_state_59
          obtain ⟨u37_, eu37_⟩ : ∃ y, y = g_sI u 0 (2 : Int32) := ⟨_, rfl⟩
          refine okk_bs (v := ((1 : Int32), u37_)) (by rw [eu37_]; exact fm_thr_2 _ _) ?_
          dsimp only
          have Iu37_ : IM g u37_ := by rw [eu37_]; exact IM_ix I _ (by decide)
          have h038_ : (u37_.1 0).toInt = 2 := by rw [eu37_, rdI, if_pos rfl]; decide
          have z39_ : (u37_.1 1).toInt = (u.1 1).toInt := by rw [eu37_]; rfl
          have z40_ : (u37_.1 2).toInt = (u.1 2).toInt := by rw [eu37_]; rfl
          refine okk_f (by decide) ?_
          exact okk_some (Iu37_)
  · have t41_ : ((u.1 2) - (1 : Int32)).toInt = ((u.1 2).toInt - (1 : Int)) := (oi_sub (a := (u.1 2)) (b := (1 : Int32)) rfl (by decide : (1 : Int32).toInt = 1) (by omega) (by omega))
    refine okk_f (by decide) ?_
    unfold fm_state_16
    try have t42_ : (0 : Int32).toInt = (0 : Int) := (by decide : (0 : Int32).toInt = 0)
    try have t43_ : (2 : Int32).toInt = (2 : Int) := (by decide : (2 : Int32).toInt = 2)
    refine okk_in (fun b44_ => ?_) (fun b44_ => ?_)
    · refine okk_t (by decide) ?_
      unfold fm_state_30
      refine okk_t (by decide) ?_
      unfold fm_state_59
      obtain ⟨u45_, eu45_⟩ : ∃ y, y = g_sI u 0 (1 : Int32) := ⟨_, rfl⟩
      refine okk_bs (v := ((1 : Int32), u45_)) (by rw [eu45_]; exact fm_thr_1 _ _ _) ?_
      dsimp only
      have Iu45_ : IM g u45_ := by rw [eu45_]; exact IM_ix I _ (by decide)
      have h046_ : (u45_.1 0).toInt = 1 := by rw [eu45_, rdI, if_pos rfl]; decide
      have z47_ : (u45_.1 1).toInt = (u.1 1).toInt := by rw [eu45_]; rfl
      have z48_ : (u45_.1 2).toInt = (u.1 2).toInt := by rw [eu45_]; rfl
      refine okk_f (by decide) ?_
      exact okk_some (Iu45_)
    · refine okk_f (by decide) ?_
      unfold fm_state_30
      refine okk_t (by decide) ?_
      unfold fm_state_59
      obtain ⟨u49_, eu49_⟩ : ∃ y, y = g_sI u 0 (1 : Int32) := ⟨_, rfl⟩
      refine okk_bs (v := ((1 : Int32), u49_)) (by rw [eu49_]; exact fm_thr_1 _ _ _) ?_
      dsimp only
      have Iu49_ : IM g u49_ := by rw [eu49_]; exact IM_ix I _ (by decide)
      have h050_ : (u49_.1 0).toInt = 1 := by rw [eu49_, rdI, if_pos rfl]; decide
      have z51_ : (u49_.1 1).toInt = (u.1 1).toInt := by rw [eu49_]; rfl
      have z52_ : (u49_.1 2).toInt = (u.1 2).toInt := by rw [eu49_]; rfl
      refine okk_f (by decide) ?_
      exact okk_some (Iu49_)
