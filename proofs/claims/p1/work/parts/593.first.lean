set_option maxHeartbeats 4000000 in
theorem okz_fm_share {g : Nat → Int32} {u : g_S} (I : IM g u) {p1 : Int32} {p2 : Int32} (h0 : (u.1 1).toInt = 0) (h1 : (u.1 2).toInt = 0) : okk (fm_share u p1 p2) (fun r => ((r.2.1 0).toInt = 1)) := by
  unfold fm_share
  have z1_ := IM_s I
  refine okk_isCall (fun b2_ => ?_) (fun b2_ => ?_)
  · have t3_ : ((u.1 1) - (1 : Int32)).toInt = ((u.1 1).toInt - (1 : Int)) := (oi_sub (a := (u.1 1)) (b := (1 : Int32)) rfl (by decide : (1 : Int32).toInt = 1) (by omega) (by omega))
    refine okk_f (by decide) ?_
    refine okk_isCall (fun b4_ => ?_) (fun b4_ => ?_)
    · refine okk_f (by decide) ?_
      refine okk_eq (fun c5_ c5_I => ?_) (fun c5_ c5_I => ?_)
      · unfold fm_share_26
        refine okk_t (by decide) ?_
        unfold fm_share_50
        refine okk_t (by decide) ?_
        unfold fm_share_79
        refine okk_f (by decide) ?_
        refine okk_f (by decide) ?_
        unfold fm_share_101
        obtain ⟨u6_, eu6_⟩ : ∃ y, y = g_sI u 0 (1 : Int32) := ⟨_, rfl⟩
        refine okk_bs (v := ((1 : Int32), u6_)) (by rw [eu6_]; exact fm_thr_1 _ _ _) ?_
        dsimp only
        have Iu6_ : IM g u6_ := by rw [eu6_]; exact IM_ix I _ (by decide)
        have h07_ : (u6_.1 0).toInt = 1 := by rw [eu6_, rdI, if_pos rfl]; decide
        have z8_ : (u6_.1 1).toInt = (u.1 1).toInt := by rw [eu6_]; rfl
        have z9_ : (u6_.1 2).toInt = (u.1 2).toInt := by rw [eu6_]; rfl
        refine okk_f (by decide) ?_
        try have t10_ : (0 : Int32).toInt = (0 : Int) := (by decide : (0 : Int32).toInt = 0)
        exact okk_some ((by show (u6_.1 0).toInt = 1; omega))
      · unfold fm_share_26
        refine okk_f (by decide) ?_
        refine okk_le (fun c11_ c11_I => ?_) (fun c11_ c11_I => ?_)
        · refine okk_ck (vp_I (by omega) (by omega)) ?_
          unfold fm_share_50
          refine okk_f (by decide) ?_
          refine okk_ck (vp_I (by omega) (by omega)) ?_
          refine okk_ck (vp_I (by omega) (by omega)) ?_
          have r12_ := IM_r8 I p2.toNatClampNeg
          refine okk_bi (okk_fm_sum I (by omega) (by omega)) (fun v13_ hv13_ => ?_)
          have p14_ := hv13_
          unfold fm_share_79
          refine okk_t (by decide) ?_
          try have t16_ : (0 : Int32).toInt = (0 : Int) := (by decide : (0 : Int32).toInt = 0)
          refine okk_ne (fun c15_ c15_I => ?_) (fun c15_ c15_I => ?_)
          · unfold fm_share_101
            obtain ⟨u17_, eu17_⟩ : ∃ y, y = g_sI u 0 (0 : Int32) := ⟨_, rfl⟩
            refine okk_bs (v := ((0 : Int32), u17_)) (by rw [eu17_]; exact fm_thr_0 _) ?_
            dsimp only
            have Iu17_ : IM g u17_ := by rw [eu17_]; exact IM_ix I _ (by decide)
            have h018_ : (u17_.1 0).toInt = 0 := by rw [eu17_, rdI, if_pos rfl]; decide
            have z19_ : (u17_.1 1).toInt = (u.1 1).toInt := by rw [eu17_]; rfl
            have z20_ : (u17_.1 2).toInt = (u.1 2).toInt := by rw [eu17_]; rfl
            refine okk_t (by decide) ?_
            refine okk_ck (vp_I (by omega) (by omega)) ?_
            refine okk_ck (vp_I (by omega) (by omega)) ?_
            have z21_ := IM_s Iu17_
            refine okk_bi (okk_fm_sum Iu17_ (by omega) (by omega)) (fun v22_ hv22_ => ?_)
            have p23_ := hv22_
            refine okk_eq (fun c24_ c24_I => ?_) (fun c24_ c24_I => ?_)
            · exfalso; omega
            · exact okk_some ((by show (u17_.1 0).toInt = 1; omega))
          · unfold fm_share_101
            obtain ⟨u25_, eu25_⟩ : ∃ y, y = g_sI u 0 (2 : Int32) := ⟨_, rfl⟩
            refine okk_bs (v := ((1 : Int32), u25_)) (by rw [eu25_]; exact fm_thr_2 _ _) ?_
            dsimp only
            have Iu25_ : IM g u25_ := by rw [eu25_]; exact IM_ix I _ (by decide)
            have h026_ : (u25_.1 0).toInt = 2 := by rw [eu25_, rdI, if_pos rfl]; decide
            have z27_ : (u25_.1 1).toInt = (u.1 1).toInt := by rw [eu25_]; rfl
            have z28_ : (u25_.1 2).toInt = (u.1 2).toInt := by rw [eu25_]; rfl
            refine okk_f (by decide) ?_
            exact okk_some ((by show (u25_.1 0).toInt = 1; omega))
        · refine okk_ck (vp_I (by omega) (by omega)) ?_
          unfold fm_share_50
          refine okk_f (by decide) ?_
          refine okk_ck (vp_I (by omega) (by omega)) ?_
          refine okk_ck (vp_I (by omega) (by omega)) ?_
          have r29_ := IM_r8 I p1.toNatClampNeg
          refine okk_bi (okk_fm_sum I (by omega) (by omega)) (fun v30_ hv30_ => ?_)
          have p31_ := hv30_
          unfold fm_share_79
          refine okk_t (by decide) ?_
          try have t33_ : (0 : Int32).toInt = (0 : Int) := (by decide : (0 : Int32).toInt = 0)
          refine okk_ne (fun c32_ c32_I => ?_) (fun c32_ c32_I => ?_)
          · unfold fm_share_101
            obtain ⟨u34_, eu34_⟩ : ∃ y, y = g_sI u 0 (0 : Int32) := ⟨_, rfl⟩
            refine okk_bs (v := ((0 : Int32), u34_)) (by rw [eu34_]; exact fm_thr_0 _) ?_
            dsimp only
            have Iu34_ : IM g u34_ := by rw [eu34_]; exact IM_ix I _ (by decide)
            have h035_ : (u34_.1 0).toInt = 0 := by rw [eu34_, rdI, if_pos rfl]; decide
            have z36_ : (u34_.1 1).toInt = (u.1 1).toInt := by rw [eu34_]; rfl
            have z37_ : (u34_.1 2).toInt = (u.1 2).toInt := by rw [eu34_]; rfl
            refine okk_t (by decide) ?_
            refine okk_ck (vp_I (by omega) (by omega)) ?_
            refine okk_ck (vp_I (by omega) (by omega)) ?_
            have z38_ := IM_s Iu34_
            refine okk_bi (okk_fm_sum Iu34_ (by omega) (by omega)) (fun v39_ hv39_ => ?_)
            have p40_ := hv39_
            refine okk_eq (fun c41_ c41_I => ?_) (fun c41_ c41_I => ?_)
            · exfalso; omega
            · exact okk_some ((by show (u34_.1 0).toInt = 1; omega))
          · unfold fm_share_101
            obtain ⟨u42_, eu42_⟩ : ∃ y, y = g_sI u 0 (2 : Int32) := ⟨_, rfl⟩
            refine okk_bs (v := ((1 : Int32), u42_)) (by rw [eu42_]; exact fm_thr_2 _ _) ?_
            dsimp only
            have Iu42_ : IM g u42_ := by rw [eu42_]; exact IM_ix I _ (by decide)
            have h043_ : (u42_.1 0).toInt = 2 := by rw [eu42_, rdI, if_pos rfl]; decide
            have z44_ : (u42_.1 1).toInt = (u.1 1).toInt := by rw [eu42_]; rfl
            have z45_ : (u42_.1 2).toInt = (u.1 2).toInt := by rw [eu42_]; rfl
            refine okk_f (by decide) ?_
            exact okk_some ((by show (u42_.1 0).toInt = 1; omega))
    · refine okk_t (by decide) ?_
      unfold fm_share_26
      refine okk_t (by decide) ?_
      unfold fm_share_50
      refine okk_t (by decide) ?_
      unfold fm_share_79
      refine okk_f (by decide) ?_
      refine okk_f (by decide) ?_
      unfold fm_share_101
      obtain ⟨u46_, eu46_⟩ : ∃ y, y = g_sI u 0 (1 : Int32) := ⟨_, rfl⟩
      refine okk_bs (v := ((1 : Int32), u46_)) (by rw [eu46_]; exact fm_thr_1 _ _ _) ?_
      dsimp only
      have Iu46_ : IM g u46_ := by rw [eu46_]; exact IM_ix I _ (by decide)
      have h047_ : (u46_.1 0).toInt = 1 := by rw [eu46_, rdI, if_pos rfl]; decide
      have z48_ : (u46_.1 1).toInt = (u.1 1).toInt := by rw [eu46_]; rfl
      have z49_ : (u46_.1 2).toInt = (u.1 2).toInt := by rw [eu46_]; rfl
      refine okk_f (by decide) ?_
      try have t50_ : (0 : Int32).toInt = (0 : Int) := (by decide : (0 : Int32).toInt = 0)
      exact okk_some ((by show (u46_.1 0).toInt = 1; omega))
  · have t51_ : ((u.1 1) - (1 : Int32)).toInt = ((u.1 1).toInt - (1 : Int)) := (oi_sub (a := (u.1 1)) (b := (1 : Int32)) rfl (by decide : (1 : Int32).toInt = 1) (by omega) (by omega))
    refine okk_t (by decide) ?_
    unfold fm_share_26
    refine okk_t (by decide) ?_
    unfold fm_share_50
    refine okk_t (by decide) ?_
    unfold fm_share_79
    refine okk_f (by decide) ?_
    refine okk_f (by decide) ?_
    unfold fm_share_101
    obtain ⟨u52_, eu52_⟩ : ∃ y, y = g_sI u 0 (1 : Int32) := ⟨_, rfl⟩
    refine okk_bs (v := ((1 : Int32), u52_)) (by rw [eu52_]; exact fm_thr_1 _ _ _) ?_
    dsimp only
    have Iu52_ : IM g u52_ := by rw [eu52_]; exact IM_ix I _ (by decide)
    have h053_ : (u52_.1 0).toInt = 1 := by rw [eu52_, rdI, if_pos rfl]; decide
    have z54_ : (u52_.1 1).toInt = (u.1 1).toInt := by rw [eu52_]; rfl
    have z55_ : (u52_.1 2).toInt = (u.1 2).toInt := by rw [eu52_]; rfl
    refine okk_f (by decide) ?_
    try have t56_ : (0 : Int32).toInt = (0 : Int) := (by decide : (0 : Int32).toInt = 0)
    exact okk_some ((by show (u52_.1 0).toInt = 1; omega))
set_option maxHeartbeats 4000000 in
theorem okz_fm_agree {g : Nat → Int32} {u : g_S} (I : IM g u) {p1 : Int32} {p2 : Int32} (h0 : (u.1 1).toInt = 0) (h1 : (u.1 2).toInt = 0) : okk (fm_agree u p1 p2) (fun r => ((r.2.1 0).toInt = 1)) := by
  unfold fm_agree
  have z1_ := IM_s I
  refine okk_isCall (fun b2_ => ?_) (fun b2_ => ?_)
  · have t3_ : ((u.1 1) - (1 : Int32)).toInt = ((u.1 1).toInt - (1 : Int)) := (oi_sub (a := (u.1 1)) (b := (1 : Int32)) rfl (by decide : (1 : Int32).toInt = 1) (by omega) (by omega))
    refine okk_f (by decide) ?_
    refine okk_isCall (fun b4_ => ?_) (fun b4_ => ?_)
    · refine okk_f (by decide) ?_
      refine okk_eq (fun c5_ c5_I => ?_) (fun c5_ c5_I => ?_)
      · unfold fm_agree_26
        refine okk_f (by decide) ?_
        unfold fm_agree_37
        obtain ⟨u6_, eu6_⟩ : ∃ y, y = g_sI u 0 (1 : Int32) := ⟨_, rfl⟩
        refine okk_bs (v := ((1 : Int32), u6_)) (by rw [eu6_]; exact fm_thr_1 _ _ _) ?_
        dsimp only
        have Iu6_ : IM g u6_ := by rw [eu6_]; exact IM_ix I _ (by decide)
        have h07_ : (u6_.1 0).toInt = 1 := by rw [eu6_, rdI, if_pos rfl]; decide
        have z8_ : (u6_.1 1).toInt = (u.1 1).toInt := by rw [eu6_]; rfl
        have z9_ : (u6_.1 2).toInt = (u.1 2).toInt := by rw [eu6_]; rfl
        refine okk_f (by decide) ?_
        try have t10_ : (0 : Int32).toInt = (0 : Int) := (by decide : (0 : Int32).toInt = 0)
        exact okk_some ((by show (u6_.1 0).toInt = 1; omega))
      · unfold fm_agree_26
        refine okk_t (by decide) ?_
        unfold fm_agree_37
        obtain ⟨u11_, eu11_⟩ : ∃ y, y = g_sI u 0 (0 : Int32) := ⟨_, rfl⟩
        refine okk_bs (v := ((0 : Int32), u11_)) (by rw [eu11_]; exact fm_thr_0 _) ?_
        dsimp only
        have Iu11_ : IM g u11_ := by rw [eu11_]; exact IM_ix I _ (by decide)
        have h012_ : (u11_.1 0).toInt = 0 := by rw [eu11_, rdI, if_pos rfl]; decide
        have z13_ : (u11_.1 1).toInt = (u.1 1).toInt := by rw [eu11_]; rfl
        have z14_ : (u11_.1 2).toInt = (u.1 2).toInt := by rw [eu11_]; rfl
        refine okk_t (by decide) ?_
        refine okk_le (fun c15_ c15_I => ?_) (fun c15_ c15_I => ?_)
        · unfold fm_agree_57
          try have t17_ : ((p1 + p2) - p2).toInt = ((p1.toInt + p2.toInt) - p2.toInt) := (oi_sub (a := (p1 + p2)) (b := p2) (oi_add (a := p1) (b := p2) rfl rfl (by omega) (by omega)) rfl (by omega) (by omega))
          refine okk_gl (fun w316_ ew316_ => ?_)
          have t18_ : w316_.toInt = ((p1 + p2) - p2).toInt := by rw [ew316_]
          refine okk_ck (vp_I (by omega) (by omega)) ?_
          refine okk_ck (vp_I (by omega) (by omega)) ?_
          refine okk_ck (vp_I (by omega) (by omega)) ?_
          refine okk_ck (vp_I (by omega) (by omega)) ?_
          have r19_ := IM_r8 Iu11_ w316_.toNatClampNeg
          have r20_ : (u11_.2 8 w316_.toNatClampNeg).toInt = (u.2 8 w316_.toNatClampNeg).toInt := by rw [eu11_]; rfl
          have r21_ := IM_r8 I w316_.toNatClampNeg
          have z22_ := IM_s Iu11_
          refine okk_bi (okk_fm_meets Iu11_ (by omega) (by omega) (by omega) (by omega)) (fun v23_ hv23_ => ?_)
          have p24_ := hv23_
          exact okk_some ((by show (u11_.1 0).toInt = 1; omega))
        · unfold fm_agree_57
          try have t26_ : ((p1 + p2) - p1).toInt = ((p1.toInt + p2.toInt) - p1.toInt) := (oi_sub (a := (p1 + p2)) (b := p1) (oi_add (a := p1) (b := p2) rfl rfl (by omega) (by omega)) rfl (by omega) (by omega))
          refine okk_gl (fun w325_ ew325_ => ?_)
          have t27_ : w325_.toInt = ((p1 + p2) - p1).toInt := by rw [ew325_]
          refine okk_ck (vp_I (by omega) (by omega)) ?_
          refine okk_ck (vp_I (by omega) (by omega)) ?_
          refine okk_ck (vp_I (by omega) (by omega)) ?_
          refine okk_ck (vp_I (by omega) (by omega)) ?_
          have r28_ := IM_r8 Iu11_ w325_.toNatClampNeg
          have r29_ : (u11_.2 8 w325_.toNatClampNeg).toInt = (u.2 8 w325_.toNatClampNeg).toInt := by rw [eu11_]; rfl
          have r30_ := IM_r8 I w325_.toNatClampNeg
          have z31_ := IM_s Iu11_
          refine okk_bi (okk_fm_meets Iu11_ (by omega) (by omega) (by omega) (by omega)) (fun v32_ hv32_ => ?_)
          have p33_ := hv32_
          exact okk_some ((by show (u11_.1 0).toInt = 1; omega))
    · refine okk_t (by decide) ?_
      unfold fm_agree_26
      refine okk_f (by decide) ?_
      unfold fm_agree_37
      obtain ⟨u34_, eu34_⟩ : ∃ y, y = g_sI u 0 (1 : Int32) := ⟨_, rfl⟩
      refine okk_bs (v := ((1 : Int32), u34_)) (by rw [eu34_]; exact fm_thr_1 _ _ _) ?_
      dsimp only
      have Iu34_ : IM g u34_ := by rw [eu34_]; exact IM_ix I _ (by decide)
      have h035_ : (u34_.1 0).toInt = 1 := by rw [eu34_, rdI, if_pos rfl]; decide
      have z36_ : (u34_.1 1).toInt = (u.1 1).toInt := by rw [eu34_]; rfl
      have z37_ : (u34_.1 2).toInt = (u.1 2).toInt := by rw [eu34_]; rfl
      refine okk_f (by decide) ?_
      try have t38_ : (0 : Int32).toInt = (0 : Int) := (by decide : (0 : Int32).toInt = 0)
      exact okk_some ((by show (u34_.1 0).toInt = 1; omega))
  · have t39_ : ((u.1 1) - (1 : Int32)).toInt = ((u.1 1).toInt - (1 : Int)) := (oi_sub (a := (u.1 1)) (b := (1 : Int32)) rfl (by decide : (1 : Int32).toInt = 1) (by omega) (by omega))
    refine okk_t (by decide) ?_
    unfold fm_agree_26
    refine okk_f (by decide) ?_
    unfold fm_agree_37
    obtain ⟨u40_, eu40_⟩ : ∃ y, y = g_sI u 0 (1 : Int32) := ⟨_, rfl⟩
    refine okk_bs (v := ((1 : Int32), u40_)) (by rw [eu40_]; exact fm_thr_1 _ _ _) ?_
    dsimp only
    have Iu40_ : IM g u40_ := by rw [eu40_]; exact IM_ix I _ (by decide)
    have h041_ : (u40_.1 0).toInt = 1 := by rw [eu40_, rdI, if_pos rfl]; decide
    have z42_ : (u40_.1 1).toInt = (u.1 1).toInt := by rw [eu40_]; rfl
    have z43_ : (u40_.1 2).toInt = (u.1 2).toInt := by rw [eu40_]; rfl
    refine okk_f (by decide) ?_
    try have t44_ : (0 : Int32).toInt = (0 : Int) := (by decide : (0 : Int32).toInt = 0)
    exact okk_some ((by show (u40_.1 0).toInt = 1; omega))
set_option maxHeartbeats 4000000 in
theorem okz_fm_callAt {g : Nat → Int32} {u : g_S} (I : IM g u) {p1 : Int32} {p2 : Int32} (h0 : (u.1 1).toInt = 0) (h1 : (u.1 2).toInt = 0) : okk (fm_callAt u p1 p2) (fun r => ((r.2.1 0).toInt = 1)) := by
  unfold fm_callAt
  have z1_ := IM_s I
  refine okk_isCall (fun b2_ => ?_) (fun b2_ => ?_)
  · have t3_ : ((u.1 1) - (1 : Int32)).toInt = ((u.1 1).toInt - (1 : Int)) := (oi_sub (a := (u.1 1)) (b := (1 : Int32)) rfl (by decide : (1 : Int32).toInt = 1) (by omega) (by omega))
    refine okk_f (by decide) ?_
    try have t4_ : (0 : Int32).toInt = (0 : Int) := (by decide : (0 : Int32).toInt = 0)
    try have t5_ : (4 : Int32).toInt = (4 : Int) := (by decide : (4 : Int32).toInt = 4)
    refine okk_in (fun b6_ => ?_) (fun b6_ => ?_)
    · refine okk_t (by decide) ?_
      unfold fm_callAt_23
      obtain ⟨u7_, eu7_⟩ : ∃ y, y = g_sI u 0 (0 : Int32) := ⟨_, rfl⟩
      refine okk_bs (v := ((0 : Int32), u7_)) (by rw [eu7_]; exact fm_thr_0 _) ?_
      dsimp only
      have Iu7_ : IM g u7_ := by rw [eu7_]; exact IM_ix I _ (by decide)
      have h08_ : (u7_.1 0).toInt = 0 := by rw [eu7_, rdI, if_pos rfl]; decide
      have z9_ : (u7_.1 1).toInt = (u.1 1).toInt := by rw [eu7_]; rfl
      have z10_ : (u7_.1 2).toInt = (u.1 2).toInt := by rw [eu7_]; rfl
      refine okk_t (by decide) ?_
      refine okk_ne (fun c11_ c11_I => ?_) (fun c11_ c11_I => ?_)
      · try have t13_ : (1 : Int32).toInt = (1 : Int) := (by decide : (1 : Int32).toInt = 1)
        refine okk_ne (fun c12_ c12_I => ?_) (fun c12_ c12_I => ?_)
        · try have t15_ : (2 : Int32).toInt = (2 : Int) := (by decide : (2 : Int32).toInt = 2)
          refine okk_ne (fun c14_ c14_I => ?_) (fun c14_ c14_I => ?_)
          · try have t17_ : (3 : Int32).toInt = (3 : Int) := (by decide : (3 : Int32).toInt = 3)
            refine okk_ne (fun c16_ c16_I => ?_) (fun c16_ c16_I => ?_)
            · refine okk_ck (vp_I (by omega) (by omega)) ?_
              have r18_ : (u7_.2 15 p1.toNatClampNeg).toInt = (u.2 15 p1.toNatClampNeg).toInt := by rw [eu7_]; rfl
              exact okk_some ((by show (u7_.1 0).toInt = 1; omega))
            · refine okk_ck (vp_I (by omega) (by omega)) ?_
              have r19_ := IM_r8 Iu7_ p1.toNatClampNeg
              have r20_ : (u7_.2 8 p1.toNatClampNeg).toInt = (u.2 8 p1.toNatClampNeg).toInt := by rw [eu7_]; rfl
              have r21_ := IM_r8 I p1.toNatClampNeg
              exact okk_some ((by show (u7_.1 0).toInt = 1; omega))
          · refine okk_ck (vp_I (by omega) (by omega)) ?_
            have r22_ : (u7_.2 14 p1.toNatClampNeg).toInt = (u.2 14 p1.toNatClampNeg).toInt := by rw [eu7_]; rfl
            exact okk_some ((by show (u7_.1 0).toInt = 1; omega))
        · refine okk_ck (vp_I (by omega) (by omega)) ?_
          have r23_ := IM_r13 Iu7_ p1.toNatClampNeg
          have r24_ : (u7_.2 13 p1.toNatClampNeg).toInt = (u.2 13 p1.toNatClampNeg).toInt := by rw [eu7_]; rfl
          have r25_ := IM_r13 I p1.toNatClampNeg
          exact okk_some ((by show (u7_.1 0).toInt = 1; omega))
      · refine okk_ck (vp_I (by omega) (by omega)) ?_
        have r26_ := IM_r12 Iu7_ p1.toNatClampNeg
        have r27_ : (u7_.2 12 p1.toNatClampNeg).toInt = (u.2 12 p1.toNatClampNeg).toInt := by rw [eu7_]; rfl
        have r28_ := IM_r12 I p1.toNatClampNeg
        exact okk_some ((by show (u7_.1 0).toInt = 1; omega))
    · refine okk_f (by decide) ?_
      unfold fm_callAt_23
      obtain ⟨u29_, eu29_⟩ : ∃ y, y = g_sI u 0 (1 : Int32) := ⟨_, rfl⟩
      refine okk_bs (v := ((1 : Int32), u29_)) (by rw [eu29_]; exact fm_thr_1 _ _ _) ?_
      dsimp only
      have Iu29_ : IM g u29_ := by rw [eu29_]; exact IM_ix I _ (by decide)
      have h030_ : (u29_.1 0).toInt = 1 := by rw [eu29_, rdI, if_pos rfl]; decide
      have z31_ : (u29_.1 1).toInt = (u.1 1).toInt := by rw [eu29_]; rfl
      have z32_ : (u29_.1 2).toInt = (u.1 2).toInt := by rw [eu29_]; rfl
      refine okk_f (by decide) ?_
      exact okk_some ((by show (u29_.1 0).toInt = 1; omega))
  · have t33_ : ((u.1 1) - (1 : Int32)).toInt = ((u.1 1).toInt - (1 : Int)) := (oi_sub (a := (u.1 1)) (b := (1 : Int32)) rfl (by decide : (1 : Int32).toInt = 1) (by omega) (by omega))
    refine okk_t (by decide) ?_
    unfold fm_callAt_23
    obtain ⟨u34_, eu34_⟩ : ∃ y, y = g_sI u 0 (1 : Int32) := ⟨_, rfl⟩
    refine okk_bs (v := ((1 : Int32), u34_)) (by rw [eu34_]; exact fm_thr_1 _ _ _) ?_
    dsimp only
    have Iu34_ : IM g u34_ := by rw [eu34_]; exact IM_ix I _ (by decide)
    have h035_ : (u34_.1 0).toInt = 1 := by rw [eu34_, rdI, if_pos rfl]; decide
    have z36_ : (u34_.1 1).toInt = (u.1 1).toInt := by rw [eu34_]; rfl
    have z37_ : (u34_.1 2).toInt = (u.1 2).toInt := by rw [eu34_]; rfl
    refine okk_f (by decide) ?_
    try have t38_ : (0 : Int32).toInt = (0 : Int) := (by decide : (0 : Int32).toInt = 0)
    exact okk_some ((by show (u34_.1 0).toInt = 1; omega))
set_option maxHeartbeats 4000000 in
theorem okz_fm_eventAt {g : Nat → Int32} {u : g_S} (I : IM g u) {p1 : Int32} {p2 : Int32} (h0 : (u.1 1).toInt = 0) (h1 : (u.1 2).toInt = 0) : okk (fm_eventAt u p1 p2) (fun r => ((r.2.1 0).toInt = 1)) := by
  unfold fm_eventAt
  have z1_ := IM_s I
  refine okk_isEvent (fun b2_ => ?_) (fun b2_ => ?_)
  · have t3_ : ((u.1 2) - (1 : Int32)).toInt = ((u.1 2).toInt - (1 : Int)) := (oi_sub (a := (u.1 2)) (b := (1 : Int32)) rfl (by decide : (1 : Int32).toInt = 1) (by omega) (by omega))
    refine okk_f (by decide) ?_
    try have t4_ : (0 : Int32).toInt = (0 : Int) := (by decide : (0 : Int32).toInt = 0)
    try have t5_ : (6 : Int32).toInt = (6 : Int) := (by decide : (6 : Int32).toInt = 6)
    refine okk_in (fun b6_ => ?_) (fun b6_ => ?_)
    · refine okk_t (by decide) ?_
      unfold fm_eventAt_24
      obtain ⟨u7_, eu7_⟩ : ∃ y, y = g_sI u 0 (0 : Int32) := ⟨_, rfl⟩
      refine okk_bs (v := ((0 : Int32), u7_)) (by rw [eu7_]; exact fm_thr_0 _) ?_
      dsimp only
      have Iu7_ : IM g u7_ := by rw [eu7_]; exact IM_ix I _ (by decide)
      have h08_ : (u7_.1 0).toInt = 0 := by rw [eu7_, rdI, if_pos rfl]; decide
      have z9_ : (u7_.1 1).toInt = (u.1 1).toInt := by rw [eu7_]; rfl
      have z10_ : (u7_.1 2).toInt = (u.1 2).toInt := by rw [eu7_]; rfl
      refine okk_t (by decide) ?_
      have z11_ := IM_s Iu7_
      refine okk_bi (okk_fm_firstOf Iu7_) (fun v12_ hv12_ => ?_)
      have p13_ := hv12_
      refine okk_eq (fun c14_ c14_I => ?_) (fun c14_ c14_I => ?_)
      · refine okk_ck (vp_I (by omega) (by omega)) ?_
        have r15_ : (u7_.2 16 p1.toNatClampNeg).toInt = (u.2 16 p1.toNatClampNeg).toInt := by rw [eu7_]; rfl
        exact okk_some ((by show (u7_.1 0).toInt = 1; omega))
      · try have t17_ : (1 : Int32).toInt = (1 : Int) := (by decide : (1 : Int32).toInt = 1)
        refine okk_eq (fun c16_ c16_I => ?_) (fun c16_ c16_I => ?_)
        · refine okk_bi (okk_fm_size Iu7_) (fun v18_ hv18_ => ?_)
          have p19_ := hv18_
          exact okk_some ((by show (u7_.1 0).toInt = 1; omega))
        · try have t21_ : (2 : Int32).toInt = (2 : Int) := (by decide : (2 : Int32).toInt = 2)
          refine okk_eq (fun c20_ c20_I => ?_) (fun c20_ c20_I => ?_)
          · refine okk_le (fun c22_ c22_I => ?_) (fun c22_ c22_I => ?_)
            · refine okk_ck (vp_I (by omega) (by omega)) ?_
              have r23_ := IM_r8 Iu7_ v12_.toNatClampNeg
              have r24_ : (u7_.2 8 v12_.toNatClampNeg).toInt = (u.2 8 v12_.toNatClampNeg).toInt := by rw [eu7_]; rfl
              have r25_ := IM_r8 I v12_.toNatClampNeg
              exact okk_some ((by show (u7_.1 0).toInt = 1; omega))
            · try have t26_ : (-1 : Int32).toInt = (-1 : Int) := (by decide : (-1 : Int32).toInt = -1)
              exact okk_some ((by show (u7_.1 0).toInt = 1; omega))
          · try have t28_ : (3 : Int32).toInt = (3 : Int) := (by decide : (3 : Int32).toInt = 3)
            refine okk_eq (fun c27_ c27_I => ?_) (fun c27_ c27_I => ?_)
            · refine okk_bi (okk_fm_weightOf Iu7_) (fun v29_ hv29_ => ?_)
              have p30_ := hv29_
              exact okk_some ((by show (u7_.1 0).toInt = 1; omega))
            · try have t32_ : (4 : Int32).toInt = (4 : Int) := (by decide : (4 : Int32).toInt = 4)
              refine okk_eq (fun c31_ c31_I => ?_) (fun c31_ c31_I => ?_)
              · refine okk_bi (okk_fm_placeOf Iu7_) (fun v33_ hv33_ => ?_)
                have p34_ := hv33_
                exact okk_some ((by show (u7_.1 0).toInt = 1; omega))
              · try have t36_ : (5 : Int32).toInt = (5 : Int) := (by decide : (5 : Int32).toInt = 5)
                refine okk_eq (fun c35_ c35_I => ?_) (fun c35_ c35_I => ?_)
                · exact okk_some ((by show (u7_.1 0).toInt = 1; omega))
                · refine okk_bi (okk_fm_latestOf Iu7_) (fun v37_ hv37_ => ?_)
                  have p38_ := hv37_
                  exact okk_some ((by show (u7_.1 0).toInt = 1; omega))
    · refine okk_f (by decide) ?_
      unfold fm_eventAt_24
      obtain ⟨u39_, eu39_⟩ : ∃ y, y = g_sI u 0 (1 : Int32) := ⟨_, rfl⟩
      refine okk_bs (v := ((1 : Int32), u39_)) (by rw [eu39_]; exact fm_thr_1 _ _ _) ?_
      dsimp only
      have Iu39_ : IM g u39_ := by rw [eu39_]; exact IM_ix I _ (by decide)
      have h040_ : (u39_.1 0).toInt = 1 := by rw [eu39_, rdI, if_pos rfl]; decide
      have z41_ : (u39_.1 1).toInt = (u.1 1).toInt := by rw [eu39_]; rfl
      have z42_ : (u39_.1 2).toInt = (u.1 2).toInt := by rw [eu39_]; rfl
      refine okk_f (by decide) ?_
      exact okk_some ((by show (u39_.1 0).toInt = 1; omega))
  · have t43_ : ((u.1 2) - (1 : Int32)).toInt = ((u.1 2).toInt - (1 : Int)) := (oi_sub (a := (u.1 2)) (b := (1 : Int32)) rfl (by decide : (1 : Int32).toInt = 1) (by omega) (by omega))
    refine okk_t (by decide) ?_
    unfold fm_eventAt_24
    obtain ⟨u44_, eu44_⟩ : ∃ y, y = g_sI u 0 (1 : Int32) := ⟨_, rfl⟩
    refine okk_bs (v := ((1 : Int32), u44_)) (by rw [eu44_]; exact fm_thr_1 _ _ _) ?_
    dsimp only
    have Iu44_ : IM g u44_ := by rw [eu44_]; exact IM_ix I _ (by decide)
    have h045_ : (u44_.1 0).toInt = 1 := by rw [eu44_, rdI, if_pos rfl]; decide
    have z46_ : (u44_.1 1).toInt = (u.1 1).toInt := by rw [eu44_]; rfl
    have z47_ : (u44_.1 2).toInt = (u.1 2).toInt := by rw [eu44_]; rfl
    refine okk_f (by decide) ?_
    try have t48_ : (0 : Int32).toInt = (0 : Int) := (by decide : (0 : Int32).toInt = 0)
    exact okk_some ((by show (u44_.1 0).toInt = 1; omega))
