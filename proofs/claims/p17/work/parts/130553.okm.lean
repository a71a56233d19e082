set_option maxHeartbeats 4000000 in
theorem okk_fm_share {g : Nat → Int32} {u : g_S} (I : IM g u) {p1 : Int32} {p2 : Int32} : okk (fm_share u p1 p2) (fun r => IM g r.2) := by
  unfold fm_share
  have z1_ := IM_s I
  refine okk_isCall (fun b2_ => ?_) (fun b2_ => ?_)
  · have t3_ : ((u.1 1) - (1 : Int32)).toInt = ((u.1 1).toInt - (1 : Int)) := (oi_sub (a := (u.1 1)) (b := (1 : Int32)) rfl (by decide : (1 : Int32).toInt = 1) (by omega) (by omega))
    refine okk_f (by decide) ?_
    refine okk_isCall (fun b4_ => ?_) (fun b4_ => ?_)
    · refine okk_f (by decide) ?_
      refine okk_eq (fun c5_ c5_I => ?_) (fun c5_ c5_I => ?_)
      · unfold fm_share_26
        refine okk_t (by decide) ?_
        unfold fm_share_50
        refine okk_t (by decide) ?_
        unfold fm_share_79
        refine okk_f (by decide) ?_
        refine okk_f (by decide) ?_
        unfold fm_share_101
        obtain ⟨u6_, eu6_⟩ : ∃ y, y = g_sI u 0 (1 : Int32) := ⟨_, rfl⟩
        refine okk_bs (v := ((1 : Int32), u6_)) (by rw [eu6_]; exact fm_thr_1 _ _ _) ?_
        dsimp only
        have Iu6_ : IM g u6_ := by rw [eu6_]; exact IM_ix I _ (by decide)
        have h07_ : (u6_.1 0).toInt = 1 := by rw [eu6_, rdI, if_pos rfl]; decide
        have z8_ : (u6_.1 1).toInt = (u.1 1).toInt := by rw [eu6_]; rfl
        have z9_ : (u6_.1 2).toInt = (u.1 2).toInt := by rw [eu6_]; rfl
        refine okk_f (by decide) ?_
        exact okk_some (Iu6_)
      · unfold fm_share_26
        refine okk_f (by decide) ?_
        refine okk_le (fun c10_ c10_I => ?_) (fun c10_ c10_I => ?_)
        · refine okk_ck (vp_I (by omega) (by omega)) ?_
          unfold fm_share_50
          refine okk_f (by decide) ?_
          refine okk_ck (vp_I (by omega) (by omega)) ?_
          refine okk_ck (vp_I (by omega) (by omega)) ?_
          have r11_ := IM_r8 I p2.toNatClampNeg
          refine okk_bi (okk_fm_sum I (by omega) (by omega)) (fun v12_ hv12_ => ?_)
          have p13_ := hv12_
          unfold fm_share_79
          refine okk_t (by decide) ?_
          try have t15_ : (0 : Int32).toInt = (0 : Int) := (by decide : (0 : Int32).toInt = 0)
          refine okk_ne (fun c14_ c14_I => ?_) (fun c14_ c14_I => ?_)
          · unfold fm_share_101
            obtain ⟨u16_, eu16_⟩ : ∃ y, y = g_sI u 0 (0 : Int32) := ⟨_, rfl⟩
            refine okk_bs (v := ((0 : Int32), u16_)) (by rw [eu16_]; exact fm_thr_0 _) ?_
            dsimp only
            have Iu16_ : IM g u16_ := by rw [eu16_]; exact IM_ix I _ (by decide)
            have h017_ : (u16_.1 0).toInt = 0 := by rw [eu16_, rdI, if_pos rfl]; decide
            have z18_ : (u16_.1 1).toInt = (u.1 1).toInt := by rw [eu16_]; rfl
            have z19_ : (u16_.1 2).toInt = (u.1 2).toInt := by rw [eu16_]; rfl
            refine okk_t (by decide) ?_
            refine okk_ck (vp_I (by omega) (by omega)) ?_
            refine okk_ck (vp_I (by omega) (by omega)) ?_
            have z20_ := IM_s Iu16_
            refine okk_bi (okk_fm_sum Iu16_ (by omega) (by omega)) (fun v21_ hv21_ => ?_)
            have p22_ := hv21_
            refine okk_eq (fun c23_ c23_I => ?_) (fun c23_ c23_I => ?_)
            · exfalso; omega
            · exact okk_some (Iu16_)
          · unfold fm_share_101
            obtain ⟨u24_, eu24_⟩ : ∃ y, y = g_sI u 0 (2 : Int32) := ⟨_, rfl⟩
            refine okk_bs (v := ((1 : Int32), u24_)) (by rw [eu24_]; exact fm_thr_2 _ _) ?_
            dsimp only
            have Iu24_ : IM g u24_ := by rw [eu24_]; exact IM_ix I _ (by decide)
            have h025_ : (u24_.1 0).toInt = 2 := by rw [eu24_, rdI, if_pos rfl]; decide
            have z26_ : (u24_.1 1).toInt = (u.1 1).toInt := by rw [eu24_]; rfl
            have z27_ : (u24_.1 2).toInt = (u.1 2).toInt := by rw [eu24_]; rfl
            refine okk_f (by decide) ?_
            exact okk_some (Iu24_)
        · refine okk_ck (vp_I (by omega) (by omega)) ?_
          unfold fm_share_50
          refine okk_f (by decide) ?_
          refine okk_ck (vp_I (by omega) (by omega)) ?_
          refine okk_ck (vp_I (by omega) (by omega)) ?_
          have r28_ := IM_r8 I p1.toNatClampNeg
          refine okk_bi (okk_fm_sum I (by omega) (by omega)) (fun v29_ hv29_ => ?_)
          have p30_ := hv29_
          unfold fm_share_79
          refine okk_t (by decide) ?_
          try have t32_ : (0 : Int32).toInt = (0 : Int) := (by decide : (0 : Int32).toInt = 0)
          refine okk_ne (fun c31_ c31_I => ?_) (fun c31_ c31_I => ?_)
          · unfold fm_share_101
            obtain ⟨u33_, eu33_⟩ : ∃ y, y = g_sI u 0 (0 : Int32) := ⟨_, rfl⟩
            refine okk_bs (v := ((0 : Int32), u33_)) (by rw [eu33_]; exact fm_thr_0 _) ?_
            dsimp only
            have Iu33_ : IM g u33_ := by rw [eu33_]; exact IM_ix I _ (by decide)
            have h034_ : (u33_.1 0).toInt = 0 := by rw [eu33_, rdI, if_pos rfl]; decide
            have z35_ : (u33_.1 1).toInt = (u.1 1).toInt := by rw [eu33_]; rfl
            have z36_ : (u33_.1 2).toInt = (u.1 2).toInt := by rw [eu33_]; rfl
            refine okk_t (by decide) ?_
            refine okk_ck (vp_I (by omega) (by omega)) ?_
            refine okk_ck (vp_I (by omega) (by omega)) ?_
            have z37_ := IM_s Iu33_
            refine okk_bi (okk_fm_sum Iu33_ (by omega) (by omega)) (fun v38_ hv38_ => ?_)
            have p39_ := hv38_
            refine okk_eq (fun c40_ c40_I => ?_) (fun c40_ c40_I => ?_)
            · exfalso; omega
            · exact okk_some (Iu33_)
          · unfold fm_share_101
            obtain ⟨u41_, eu41_⟩ : ∃ y, y = g_sI u 0 (2 : Int32) := ⟨_, rfl⟩
            refine okk_bs (v := ((1 : Int32), u41_)) (by rw [eu41_]; exact fm_thr_2 _ _) ?_
            dsimp only
            have Iu41_ : IM g u41_ := by rw [eu41_]; exact IM_ix I _ (by decide)
            have h042_ : (u41_.1 0).toInt = 2 := by rw [eu41_, rdI, if_pos rfl]; decide
            have z43_ : (u41_.1 1).toInt = (u.1 1).toInt := by rw [eu41_]; rfl
            have z44_ : (u41_.1 2).toInt = (u.1 2).toInt := by rw [eu41_]; rfl
            refine okk_f (by decide) ?_
            exact okk_some (Iu41_)
    · refine okk_t (by decide) ?_
      unfold fm_share_26
      refine okk_t (by decide) ?_
      unfold fm_share_50
      refine okk_t (by decide) ?_
      unfold fm_share_79
      refine okk_f (by decide) ?_
      refine okk_f (by decide) ?_
      unfold fm_share_101
      obtain ⟨u45_, eu45_⟩ : ∃ y, y = g_sI u 0 (1 : Int32) := ⟨_, rfl⟩
      refine okk_bs (v := ((1 : Int32), u45_)) (by rw [eu45_]; exact fm_thr_1 _ _ _) ?_
      dsimp only
      have Iu45_ : IM g u45_ := by rw [eu45_]; exact IM_ix I _ (by decide)
      have h046_ : (u45_.1 0).toInt = 1 := by rw [eu45_, rdI, if_pos rfl]; decide
      have z47_ : (u45_.1 1).toInt = (u.1 1).toInt := by rw [eu45_]; rfl
      have z48_ : (u45_.1 2).toInt = (u.1 2).toInt := by rw [eu45_]; rfl
      refine okk_f (by decide) ?_
      exact okk_some (Iu45_)
  · have t49_ : ((u.1 1) - (1 : Int32)).toInt = ((u.1 1).toInt - (1 : Int)) := (oi_sub (a := (u.1 1)) (b := (1 : Int32)) rfl (by decide : (1 : Int32).toInt = 1) (by omega) (by omega))
    refine okk_t (by decide) ?_
    unfold fm_share_26
    refine okk_t (by decide) ?_
    unfold fm_share_50
    refine okk_t (by decide) ?_
    unfold fm_share_79
    refine okk_f (by decide) ?_
    refine okk_f (by decide) ?_
    unfold fm_share_101
    obtain ⟨u50_, eu50_⟩ : ∃ y, y = g_sI u 0 (1 : Int32) := ⟨_, rfl⟩
    refine okk_bs (v := ((1 : Int32), u50_)) (by rw [eu50_]; exact fm_thr_1 _ _ _) ?_
    dsimp only
    have Iu50_ : IM g u50_ := by rw [eu50_]; exact IM_ix I _ (by decide)
    have h051_ : (u50_.1 0).toInt = 1 := by rw [eu50_, rdI, if_pos rfl]; decide
    have z52_ : (u50_.1 1).toInt = (u.1 1).toInt := by rw [eu50_]; rfl
    have z53_ : (u50_.1 2).toInt = (u.1 2).toInt := by rw [eu50_]; rfl
    refine okk_f (by decide) ?_
    exact okk_some (Iu50_)
set_option maxHeartbeats 4000000 in
theorem okk_fm_agree {g : Nat → Int32} {u : g_S} (I : IM g u) {p1 : Int32} {p2 : Int32} : okk (fm_agree u p1 p2) (fun r => IM g r.2) := by
  unfold fm_agree
  have z1_ := IM_s I
  refine okk_isCall (fun b2_ => ?_) (fun b2_ => ?_)
  · have t3_ : ((u.1 1) - (1 : Int32)).toInt = ((u.1 1).toInt - (1 : Int)) := (oi_sub (a := (u.1 1)) (b := (1 : Int32)) rfl (by decide : (1 : Int32).toInt = 1) (by omega) (by omega))
    refine okk_f (by decide) ?_
    refine okk_isCall (fun b4_ => ?_) (fun b4_ => ?_)
    · refine okk_f (by decide) ?_
      refine okk_eq (fun c5_ c5_I => ?_) (fun c5_ c5_I => ?_)
      · unfold fm_agree_26
        refine okk_f (by decide) ?_
        unfold fm_agree_37
        obtain ⟨u6_, eu6_⟩ : ∃ y, y = g_sI u 0 (1 : Int32) := ⟨_, rfl⟩
        refine okk_bs (v := ((1 : Int32), u6_)) (by rw [eu6_]; exact fm_thr_1 _ _ _) ?_
        dsimp only
        have Iu6_ : IM g u6_ := by rw [eu6_]; exact IM_ix I _ (by decide)
        have h07_ : (u6_.1 0).toInt = 1 := by rw [eu6_, rdI, if_pos rfl]; decide
        have z8_ : (u6_.1 1).toInt = (u.1 1).toInt := by rw [eu6_]; rfl
        have z9_ : (u6_.1 2).toInt = (u.1 2).toInt := by rw [eu6_]; rfl
        refine okk_f (by decide) ?_
        exact okk_some (Iu6_)
      · unfold fm_agree_26
        refine okk_t (by decide) ?_
        unfold fm_agree_37
        obtain ⟨u10_, eu10_⟩ : ∃ y, y = g_sI u 0 (0 : Int32) := ⟨_, rfl⟩
        refine okk_bs (v := ((0 : Int32), u10_)) (by rw [eu10_]; exact fm_thr_0 _) ?_
        dsimp only
        have Iu10_ : IM g u10_ := by rw [eu10_]; exact IM_ix I _ (by decide)
        have h011_ : (u10_.1 0).toInt = 0 := by rw [eu10_, rdI, if_pos rfl]; decide
        have z12_ : (u10_.1 1).toInt = (u.1 1).toInt := by rw [eu10_]; rfl
        have z13_ : (u10_.1 2).toInt = (u.1 2).toInt := by rw [eu10_]; rfl
        refine okk_t (by decide) ?_
        refine okk_le (fun c14_ c14_I => ?_) (fun c14_ c14_I => ?_)
        · unfold fm_agree_57
          try have t16_ : ((p1 + p2) - p2).toInt = ((p1.toInt + p2.toInt) - p2.toInt) := (oi_sub (a := (p1 + p2)) (b := p2) (oi_add (a := p1) (b := p2) rfl rfl (by omega) (by omega)) rfl (by omega) (by omega))
          refine okk_gl (fun w315_ ew315_ => ?_)
          have t17_ : w315_.toInt = ((p1 + p2) - p2).toInt := by rw [ew315_]
          refine okk_ck (vp_I (by omega) (by omega)) ?_
          refine okk_ck (vp_I (by omega) (by omega)) ?_
          refine okk_ck (vp_I (by omega) (by omega)) ?_
          refine okk_ck (vp_I (by omega) (by omega)) ?_
          have r18_ := IM_r8 Iu10_ w315_.toNatClampNeg
          have r19_ : (u10_.2 8 w315_.toNatClampNeg).toInt = (u.2 8 w315_.toNatClampNeg).toInt := by rw [eu10_]; rfl
          have r20_ := IM_r8 I w315_.toNatClampNeg
          have z21_ := IM_s Iu10_
          refine okk_bi (okk_fm_meets Iu10_ (by omega) (by omega) (by omega) (by omega)) (fun v22_ hv22_ => ?_)
          have p23_ := hv22_
          exact okk_some (Iu10_)
        · unfold fm_agree_57
          try have t25_ : ((p1 + p2) - p1).toInt = ((p1.toInt + p2.toInt) - p1.toInt) := (oi_sub (a := (p1 + p2)) (b := p1) (oi_add (a := p1) (b := p2) rfl rfl (by omega) (by omega)) rfl (by omega) (by omega))
          refine okk_gl (fun w324_ ew324_ => ?_)
          have t26_ : w324_.toInt = ((p1 + p2) - p1).toInt := by rw [ew324_]
          refine okk_ck (vp_I (by omega) (by omega)) ?_
          refine okk_ck (vp_I (by omega) (by omega)) ?_
          refine okk_ck (vp_I (by omega) (by omega)) ?_
          refine okk_ck (vp_I (by omega) (by omega)) ?_
          have r27_ := IM_r8 Iu10_ w324_.toNatClampNeg
          have r28_ : (u10_.2 8 w324_.toNatClampNeg).toInt = (u.2 8 w324_.toNatClampNeg).toInt := by rw [eu10_]; rfl
          have r29_ := IM_r8 I w324_.toNatClampNeg
          have z30_ := IM_s Iu10_
          refine okk_bi (okk_fm_meets Iu10_ (by omega) (by omega) (by omega) (by omega)) (fun v31_ hv31_ => ?_)
          have p32_ := hv31_
          exact okk_some (Iu10_)
    · refine okk_t (by decide) ?_
      unfold fm_agree_26
      refine okk_f (by decide) ?_
      unfold fm_agree_37
      obtain ⟨u33_, eu33_⟩ : ∃ y, y = g_sI u 0 (1 : Int32) := ⟨_, rfl⟩
      refine okk_bs (v := ((1 : Int32), u33_)) (by rw [eu33_]; exact fm_thr_1 _ _ _) ?_
      dsimp only
      have Iu33_ : IM g u33_ := by rw [eu33_]; exact IM_ix I _ (by decide)
      have h034_ : (u33_.1 0).toInt = 1 := by rw [eu33_, rdI, if_pos rfl]; decide
      have z35_ : (u33_.1 1).toInt = (u.1 1).toInt := by rw [eu33_]; rfl
      have z36_ : (u33_.1 2).toInt = (u.1 2).toInt := by rw [eu33_]; rfl
      refine okk_f (by decide) ?_
      exact okk_some (Iu33_)
  · have t37_ : ((u.1 1) - (1 : Int32)).toInt = ((u.1 1).toInt - (1 : Int)) := (oi_sub (a := (u.1 1)) (b := (1 : Int32)) rfl (by decide : (1 : Int32).toInt = 1) (by omega) (by omega))
    refine okk_t (by decide) ?_
    unfold fm_agree_26
    refine okk_f (by decide) ?_
    unfold fm_agree_37
    obtain ⟨u38_, eu38_⟩ : ∃ y, y = g_sI u 0 (1 : Int32) := ⟨_, rfl⟩
    refine okk_bs (v := ((1 : Int32), u38_)) (by rw [eu38_]; exact fm_thr_1 _ _ _) ?_
    dsimp only
    have Iu38_ : IM g u38_ := by rw [eu38_]; exact IM_ix I _ (by decide)
    have h039_ : (u38_.1 0).toInt = 1 := by rw [eu38_, rdI, if_pos rfl]; decide
    have z40_ : (u38_.1 1).toInt = (u.1 1).toInt := by rw [eu38_]; rfl
    have z41_ : (u38_.1 2).toInt = (u.1 2).toInt := by rw [eu38_]; rfl
    refine okk_f (by decide) ?_
    exact okk_some (Iu38_)
set_option maxHeartbeats 4000000 in
theorem okk_fm_callAt {g : Nat → Int32} {u : g_S} (I : IM g u) {p1 : Int32} {p2 : Int32} : okk (fm_callAt u p1 p2) (fun r => IM g r.2) := by
  unfold fm_callAt
  have z1_ := IM_s I
  refine okk_isCall (fun b2_ => ?_) (fun b2_ => ?_)
  · have t3_ : ((u.1 1) - (1 : Int32)).toInt = ((u.1 1).toInt - (1 : Int)) := (oi_sub (a := (u.1 1)) (b := (1 : Int32)) rfl (by decide : (1 : Int32).toInt = 1) (by omega) (by omega))
    refine okk_f (by decide) ?_
    try have t4_ : (0 : Int32).toInt = (0 : Int) := (by decide : (0 : Int32).toInt = 0)
    try have t5_ : (4 : Int32).toInt = (4 : Int) := (by decide : (4 : Int32).toInt = 4)
    refine okk_in (fun b6_ => ?_) (fun b6_ => ?_)
    · refine okk_t (by decide) ?_
      unfold fm_callAt_23
      obtain ⟨u7_, eu7_⟩ : ∃ y, y = g_sI u 0 (0 : Int32) := ⟨_, rfl⟩
      refine okk_bs (v := ((0 : Int32), u7_)) (by rw [eu7_]; exact fm_thr_0 _) ?_
      dsimp only
      have Iu7_ : IM g u7_ := by rw [eu7_]; exact IM_ix I _ (by decide)
      have h08_ : (u7_.1 0).toInt = 0 := by rw [eu7_, rdI, if_pos rfl]; decide
      have z9_ : (u7_.1 1).toInt = (u.1 1).toInt := by rw [eu7_]; rfl
      have z10_ : (u7_.1 2).toInt = (u.1 2).toInt := by rw [eu7_]; rfl
      refine okk_t (by decide) ?_
      refine okk_ne (fun c11_ c11_I => ?_) (fun c11_ c11_I => ?_)
      · try have t13_ : (1 : Int32).toInt = (1 : Int) := (by decide : (1 : Int32).toInt = 1)
        refine okk_ne (fun c12_ c12_I => ?_) (fun c12_ c12_I => ?_)
        · try have t15_ : (2 : Int32).toInt = (2 : Int) := (by decide : (2 : Int32).toInt = 2)
          refine okk_ne (fun c14_ c14_I => ?_) (fun c14_ c14_I => ?_)
          · try have t17_ : (3 : Int32).toInt = (3 : Int) := (by decide : (3 : Int32).toInt = 3)
            refine okk_ne (fun c16_ c16_I => ?_) (fun c16_ c16_I => ?_)
            · refine okk_ck (vp_I (by omega) (by omega)) ?_
              exact okk_some (Iu7_)
            · refine okk_ck (vp_I (by omega) (by omega)) ?_
              exact okk_some (Iu7_)
          · refine okk_ck (vp_I (by omega) (by omega)) ?_
            exact okk_some (Iu7_)
        · refine okk_ck (vp_I (by omega) (by omega)) ?_
          exact okk_some (Iu7_)
      · refine okk_ck (vp_I (by omega) (by omega)) ?_
        exact okk_some (Iu7_)
    · refine okk_f (by decide) ?_
      unfold fm_callAt_23
      obtain ⟨u18_, eu18_⟩ : ∃ y, y = g_sI u 0 (1 : Int32) := ⟨_, rfl⟩
      refine okk_bs (v := ((1 : Int32), u18_)) (by rw [eu18_]; exact fm_thr_1 _ _ _) ?_
      dsimp only
      have Iu18_ : IM g u18_ := by rw [eu18_]; exact IM_ix I _ (by decide)
      have h019_ : (u18_.1 0).toInt = 1 := by rw [eu18_, rdI, if_pos rfl]; decide
      have z20_ : (u18_.1 1).toInt = (u.1 1).toInt := by rw [eu18_]; rfl
      have z21_ : (u18_.1 2).toInt = (u.1 2).toInt := by rw [eu18_]; rfl
      refine okk_f (by decide) ?_
      exact okk_some (Iu18_)
  · have t22_ : ((u.1 1) - (1 : Int32)).toInt = ((u.1 1).toInt - (1 : Int)) := (oi_sub (a := (u.1 1)) (b := (1 : Int32)) rfl (by decide : (1 : Int32).toInt = 1) (by omega) (by omega))
    refine okk_t (by decide) ?_
    unfold fm_callAt_23
    obtain ⟨u23_, eu23_⟩ : ∃ y, y = g_sI u 0 (1 : Int32) := ⟨_, rfl⟩
    refine okk_bs (v := ((1 : Int32), u23_)) (by rw [eu23_]; exact fm_thr_1 _ _ _) ?_
    dsimp only
    have Iu23_ : IM g u23_ := by rw [eu23_]; exact IM_ix I _ (by decide)
    have h024_ : (u23_.1 0).toInt = 1 := by rw [eu23_, rdI, if_pos rfl]; decide
    have z25_ : (u23_.1 1).toInt = (u.1 1).toInt := by rw [eu23_]; rfl
    have z26_ : (u23_.1 2).toInt = (u.1 2).toInt := by rw [eu23_]; rfl
    refine okk_f (by decide) ?_
    exact okk_some (Iu23_)
set_option maxHeartbeats 4000000 in
theorem okk_fm_eventAt {g : Nat → Int32} {u : g_S} (I : IM g u) {p1 : Int32} {p2 : Int32} : okk (fm_eventAt u p1 p2) (fun r => IM g r.2) := by
  unfold fm_eventAt
  have z1_ := IM_s I
  refine okk_isEvent (fun b2_ => ?_) (fun b2_ => ?_)
  · have t3_ : ((u.1 2) - (1 : Int32)).toInt = ((u.1 2).toInt - (1 : Int)) := (oi_sub (a := (u.1 2)) (b := (1 : Int32)) rfl (by decide : (1 : Int32).toInt = 1) (by omega) (by omega))
    refine okk_f (by decide) ?_
    try have t4_ : (0 : Int32).toInt = (0 : Int) := (by decide : (0 : Int32).toInt = 0)
    try have t5_ : (6 : Int32).toInt = (6 : Int) := (by decide : (6 : Int32).toInt = 6)
    refine okk_in (fun b6_ => ?_) (fun b6_ => ?_)
    · refine okk_t (by decide) ?_
      unfold fm_eventAt_24
      obtain ⟨u7_, eu7_⟩ : ∃ y, y = g_sI u 0 (0 : Int32) := ⟨_, rfl⟩
      refine okk_bs (v := ((0 : Int32), u7_)) (by rw [eu7_]; exact fm_thr_0 _) ?_
      dsimp only
      have Iu7_ : IM g u7_ := by rw [eu7_]; exact IM_ix I _ (by decide)
      have h08_ : (u7_.1 0).toInt = 0 := by rw [eu7_, rdI, if_pos rfl]; decide
      have z9_ : (u7_.1 1).toInt = (u.1 1).toInt := by rw [eu7_]; rfl
      have z10_ : (u7_.1 2).toInt = (u.1 2).toInt := by rw [eu7_]; rfl
      refine okk_t (by decide) ?_
      have z11_ := IM_s Iu7_
      refine okk_bi (okk_fm_firstOf Iu7_) (fun v12_ hv12_ => ?_)
      have p13_ := hv12_
      refine okk_eq (fun c14_ c14_I => ?_) (fun c14_ c14_I => ?_)
      · refine okk_ck (vp_I (by omega) (by omega)) ?_
        exact okk_some (Iu7_)
      · try have t16_ : (1 : Int32).toInt = (1 : Int) := (by decide : (1 : Int32).toInt = 1)
        refine okk_eq (fun c15_ c15_I => ?_) (fun c15_ c15_I => ?_)
        · refine okk_bi (okk_fm_size Iu7_) (fun v17_ hv17_ => ?_)
          have p18_ := hv17_
          exact okk_some (Iu7_)
        · try have t20_ : (2 : Int32).toInt = (2 : Int) := (by decide : (2 : Int32).toInt = 2)
          refine okk_eq (fun c19_ c19_I => ?_) (fun c19_ c19_I => ?_)
          · refine okk_le (fun c21_ c21_I => ?_) (fun c21_ c21_I => ?_)
            · refine okk_ck (vp_I (by omega) (by omega)) ?_
              exact okk_some (Iu7_)
            · exact okk_some (Iu7_)
          · try have t23_ : (3 : Int32).toInt = (3 : Int) := (by decide : (3 : Int32).toInt = 3)
            refine okk_eq (fun c22_ c22_I => ?_) (fun c22_ c22_I => ?_)
            · refine okk_bi (okk_fm_weightOf Iu7_) (fun v24_ hv24_ => ?_)
              have p25_ := hv24_
              exact okk_some (Iu7_)
            · try have t27_ : (4 : Int32).toInt = (4 : Int) := (by decide : (4 : Int32).toInt = 4)
              refine okk_eq (fun c26_ c26_I => ?_) (fun c26_ c26_I => ?_)
              · refine okk_bi (okk_fm_placeOf Iu7_) (fun v28_ hv28_ => ?_)
                have p29_ := hv28_
                exact okk_some (Iu7_)
              · try have t31_ : (5 : Int32).toInt = (5 : Int) := (by decide : (5 : Int32).toInt = 5)
                refine okk_eq (fun c30_ c30_I => ?_) (fun c30_ c30_I => ?_)
                · exact okk_some (Iu7_)
                · refine okk_bi (okk_fm_latestOf Iu7_) (fun v32_ hv32_ => ?_)
                  have p33_ := hv32_
                  exact okk_some (Iu7_)
    · refine okk_f (by decide) ?_
      unfold fm_eventAt_24
      obtain ⟨u34_, eu34_⟩ : ∃ y, y = g_sI u 0 (1 : Int32) := ⟨_, rfl⟩
      refine okk_bs (v := ((1 : Int32), u34_)) (by rw [eu34_]; exact fm_thr_1 _ _ _) ?_
      dsimp only
      have Iu34_ : IM g u34_ := by rw [eu34_]; exact IM_ix I _ (by decide)
      have h035_ : (u34_.1 0).toInt = 1 := by rw [eu34_, rdI, if_pos rfl]; decide
      have z36_ : (u34_.1 1).toInt = (u.1 1).toInt := by rw [eu34_]; rfl
      have z37_ : (u34_.1 2).toInt = (u.1 2).toInt := by rw [eu34_]; rfl
      refine okk_f (by decide) ?_
      exact okk_some (Iu34_)
  · have t38_ : ((u.1 2) - (1 : Int32)).toInt = ((u.1 2).toInt - (1 : Int)) := (oi_sub (a := (u.1 2)) (b := (1 : Int32)) rfl (by decide : (1 : Int32).toInt = 1) (by omega) (by omega))
    refine okk_t (by decide) ?_
    unfold fm_eventAt_24
    obtain ⟨u39_, eu39_⟩ : ∃ y, y = g_sI u 0 (1 : Int32) := ⟨_, rfl⟩
    refine okk_bs (v := ((1 : Int32), u39_)) (by rw [eu39_]; exact fm_thr_1 _ _ _) ?_
    dsimp only
    have Iu39_ : IM g u39_ := by rw [eu39_]; exact IM_ix I _ (by decide)
    have h040_ : (u39_.1 0).toInt = 1 := by rw [eu39_, rdI, if_pos rfl]; decide
    have z41_ : (u39_.1 1).toInt = (u.1 1).toInt := by rw [eu39_]; rfl
    have z42_ : (u39_.1 2).toInt = (u.1 2).toInt := by rw [eu39_]; rfl
    refine okk_f (by decide) ?_
    exact okk_some (Iu39_)
