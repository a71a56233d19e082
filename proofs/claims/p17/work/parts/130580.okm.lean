set_option maxHeartbeats 4000000 in
theorem okk_fm_reason {g : Nat → Int32} {u : g_S} (I : IM g u) {p1 : Int32} {p2 : Int32} {p3 : Int32} {p4 : Int32} {p5 : Int32} {p6 : Int32} (h0 : 0 ≤ p2.toInt) (h1 : p2.toInt ≤ 7) : okk (fm_reason u p1 p2 p3 p4 p5 p6) (fun r => IM g r.2 ∧ (-1 ≤ r.1.toInt ∧ r.1.toInt < (u.1 1).toInt) ∧ ((r.2.1 1).toInt = (u.1 1).toInt) ∧ ((r.2.1 2).toInt = (u.1 2).toInt) ∧ r.2.2 = u.2) := by
  unfold fm_reason
  have z1_ := IM_s I
  have t3_ : (1 : Int32).toInt = (1 : Int) := (by decide : (1 : Int32).toInt = 1)
  refine okk_gl (fun u12_ eu12_ => ?_)
  have Iu12_ : IM g u12_ := by rw [eu12_]; exact IM_ix I _ (by decide)
  have z4_ : (u12_.1 0).toInt = (u.1 0).toInt := by rw [eu12_]; rfl
  have z5_ : (u12_.1 1).toInt = (u.1 1).toInt := by rw [eu12_]; rfl
  have z6_ : (u12_.1 2).toInt = (u.1 2).toInt := by rw [eu12_]; rfl
  have z7_ := IM_s Iu12_
  refine okk_bi (okk_fm_again Iu12_ (by omega) (by omega)) (fun v8_ hv8_ => ?_)
  have p9_ := hv8_
  try have t11_ : (0 : Int32).toInt = (0 : Int) := (by decide : (0 : Int32).toInt = 0)
  refine okk_lt (fun c10_ c10_I => ?_) (fun c10_ c10_I => ?_)
  · have t13_ : (2 : Int32).toInt = (2 : Int) := (by decide : (2 : Int32).toInt = 2)
    refine okk_gl (fun u312_ eu312_ => ?_)
    have Iu312_ : IM g u312_ := by rw [eu312_]; exact IM_ix Iu12_ _ (by decide)
    have z14_ : (u312_.1 0).toInt = (u12_.1 0).toInt := by rw [eu312_]; rfl
    have z15_ : (u312_.1 1).toInt = (u12_.1 1).toInt := by rw [eu312_]; rfl
    have z16_ : (u312_.1 2).toInt = (u12_.1 2).toInt := by rw [eu312_]; rfl
    have z17_ := IM_s Iu312_
    refine okk_bi (okk_fm_onStretch Iu312_) (fun v18_ hv18_ => ?_)
    have p19_ := hv18_
    refine okk_lt (fun c20_ c20_I => ?_) (fun c20_ c20_I => ?_)
    · have t22_ : (3 : Int32).toInt = (3 : Int) := (by decide : (3 : Int32).toInt = 3)
      refine okk_gl (fun u521_ eu521_ => ?_)
      have Iu521_ : IM g u521_ := by rw [eu521_]; exact IM_ix Iu312_ _ (by decide)
      have z23_ : (u521_.1 0).toInt = (u312_.1 0).toInt := by rw [eu521_]; rfl
      have z24_ : (u521_.1 1).toInt = (u312_.1 1).toInt := by rw [eu521_]; rfl
      have z25_ : (u521_.1 2).toInt = (u312_.1 2).toInt := by rw [eu521_]; rfl
      have z26_ := IM_s Iu521_
      refine okk_bi (okk_fm_agreeing Iu521_ (by omega) (by omega)) (fun v27_ hv27_ => ?_)
      have p28_ := hv27_
      refine okk_lt (fun c29_ c29_I => ?_) (fun c29_ c29_I => ?_)
      · have t31_ : (4 : Int32).toInt = (4 : Int) := (by decide : (4 : Int32).toInt = 4)
        refine okk_gl (fun u730_ eu730_ => ?_)
        have Iu730_ : IM g u730_ := by rw [eu730_]; exact IM_ix Iu521_ _ (by decide)
        have z32_ : (u730_.1 0).toInt = (u521_.1 0).toInt := by rw [eu730_]; rfl
        have z33_ : (u730_.1 1).toInt = (u521_.1 1).toInt := by rw [eu730_]; rfl
        have z34_ : (u730_.1 2).toInt = (u521_.1 2).toInt := by rw [eu730_]; rfl
        have z35_ := IM_s Iu730_
        refine okk_bi (okk_fm_agreeing Iu730_ (by omega) (by omega)) (fun v36_ hv36_ => ?_)
        have p37_ := hv36_
        refine okk_lt (fun c38_ c38_I => ?_) (fun c38_ c38_I => ?_)
        · refine okk_gl (fun u939_ eu939_ => ?_)
          have Iu939_ : IM g u939_ := by rw [eu939_]; exact IM_ix Iu730_ _ (by decide)
          have z40_ : (u939_.1 0).toInt = (u730_.1 0).toInt := by rw [eu939_]; rfl
          have z41_ : (u939_.1 1).toInt = (u730_.1 1).toInt := by rw [eu939_]; rfl
          have z42_ : (u939_.1 2).toInt = (u730_.1 2).toInt := by rw [eu939_]; rfl
          exact okk_some (⟨Iu939_, (by show -1 ≤ v36_.toInt ∧ v36_.toInt < (u.1 1).toInt; omega), (by show (u939_.1 1).toInt = (u.1 1).toInt; omega), (by show (u939_.1 2).toInt = (u.1 2).toInt; omega), (by show (u939_).2 = u.2; rw [eu939_, eu730_, eu521_, eu312_, eu12_]; rfl)⟩)
        · refine okk_gl (fun u1043_ eu1043_ => ?_)
          have Iu1043_ : IM g u1043_ := by rw [eu1043_]; exact IM_ix Iu730_ _ (by decide)
          have z44_ : (u1043_.1 0).toInt = (u730_.1 0).toInt := by rw [eu1043_]; rfl
          have z45_ : (u1043_.1 1).toInt = (u730_.1 1).toInt := by rw [eu1043_]; rfl
          have z46_ : (u1043_.1 2).toInt = (u730_.1 2).toInt := by rw [eu1043_]; rfl
          exact okk_some (⟨Iu1043_, (by show -1 ≤ v36_.toInt ∧ v36_.toInt < (u.1 1).toInt; omega), (by show (u1043_.1 1).toInt = (u.1 1).toInt; omega), (by show (u1043_.1 2).toInt = (u.1 2).toInt; omega), (by show (u1043_).2 = u.2; rw [eu1043_, eu730_, eu521_, eu312_, eu12_]; rfl)⟩)
      · exact okk_some (⟨Iu521_, (by show -1 ≤ v27_.toInt ∧ v27_.toInt < (u.1 1).toInt; omega), (by show (u521_.1 1).toInt = (u.1 1).toInt; omega), (by show (u521_.1 2).toInt = (u.1 2).toInt; omega), (by show (u521_).2 = u.2; rw [eu521_, eu312_, eu12_]; rfl)⟩)
    · exact okk_some (⟨Iu312_, (by show -1 ≤ v18_.toInt ∧ v18_.toInt < (u.1 1).toInt; omega), (by show (u312_.1 1).toInt = (u.1 1).toInt; omega), (by show (u312_.1 2).toInt = (u.1 2).toInt; omega), (by show (u312_).2 = u.2; rw [eu312_, eu12_]; rfl)⟩)
  · exact okk_some (⟨Iu12_, (by show -1 ≤ v8_.toInt ∧ v8_.toInt < (u.1 1).toInt; omega), (by show (u12_.1 1).toInt = (u.1 1).toInt; omega), (by show (u12_.1 2).toInt = (u.1 2).toInt; omega), (by show (u12_).2 = u.2; rw [eu12_]; rfl)⟩)
set_option maxHeartbeats 4000000 in
theorem okk_fm_call {g : Nat → Int32} {u : g_S} (I : IM g u) {p1 : Int32} {p2 : Int32} {p3 : Int32} {p4 : Int32} {p5 : Int32} {p6 : Int32} : okk (fm_call u p1 p2 p3 p4 p5 p6) (fun r => IM g r.2) := by
  unfold fm_call
  have z1_ := IM_s I
  refine okk_bi (okk_fm_isKnown ) (fun v2_ hv2_ => ?_)
  have p3_ := hv2_
  try have t5_ : (0 : Int32).toInt = (0 : Int) := (by decide : (0 : Int32).toInt = 0)
  refine okk_ne (fun c4_ c4_I => ?_) (fun c4_ c4_I => ?_)
  · unfold fm_call_15
    refine okk_bi (okk_fm_isRange I) (fun v6_ hv6_ => ?_)
    have p7_ := hv6_
    refine okk_ne (fun c8_ c8_I => ?_) (fun c8_ c8_I => ?_)
    · unfold fm_call_31
      try have t10_ : (120 : Int32).toInt = (120 : Int) := (by decide : (120 : Int32).toInt = 120)
      refine okk_ne (fun c9_ c9_I => ?_) (fun c9_ c9_I => ?_)
      · unfold fm_call_45
        obtain ⟨u11_, eu11_⟩ : ∃ y, y = g_sI u 0 (0 : Int32) := ⟨_, rfl⟩
        refine okk_bs (v := ((0 : Int32), u11_)) (by rw [eu11_]; exact fm_thr_0 _) ?_
        dsimp only
        have Iu11_ : IM g u11_ := by rw [eu11_]; exact IM_ix I _ (by decide)
        have h012_ : (u11_.1 0).toInt = 0 := by rw [eu11_, rdI, if_pos rfl]; decide
        have z13_ : (u11_.1 1).toInt = (u.1 1).toInt := by rw [eu11_]; rfl
        have z14_ : (u11_.1 2).toInt = (u.1 2).toInt := by rw [eu11_]; rfl
        refine okk_t (by decide) ?_
        have z15_ := IM_s Iu11_
        refine okk_bi (okk_fm_reason Iu11_ (by omega) (by omega)) (fun v16_ hv16_ => ?_)
        obtain ⟨p17_, p18_, p19_, p20_, p21_⟩ := hv16_
        refine okk_le (fun c22_ c22_I => ?_) (fun c22_ c22_I => ?_)
        · have z23_ := IM_s p17_
          exact okk_call90 p17_ (by omega) (by omega) (by omega) (by omega) (by omega) (by omega)
        · try have t25_ : (60 : Int32).toInt = (60 : Int) := (by decide : (60 : Int32).toInt = 60)
          refine okk_ne (fun c24_ c24_I => ?_) (fun c24_ c24_I => ?_)
          · have z26_ := IM_s p17_
            exact okk_call90 p17_ (by omega) (by omega) (by omega) (by omega) (by omega) (by omega)
          · unfold fm_call_90
            obtain ⟨u27_, eu27_⟩ : ∃ y, y = g_sI v16_.2 0 (3 : Int32) := ⟨_, rfl⟩
            refine okk_bs (v := ((1 : Int32), u27_)) (by rw [eu27_]; exact fm_thr_3 _) ?_
            dsimp only
            have Iu27_ : IM g u27_ := by rw [eu27_]; exact IM_ix p17_ _ (by decide)
            have h028_ : (u27_.1 0).toInt = 3 := by rw [eu27_, rdI, if_pos rfl]; decide
            have z29_ : (u27_.1 1).toInt = (v16_.2.1 1).toInt := by rw [eu27_]; rfl
            have z30_ : (u27_.1 2).toInt = (v16_.2.1 2).toInt := by rw [eu27_]; rfl
            refine okk_f (by decide) ?_
            exact okk_some (Iu27_)
      · unfold fm_call_45
        obtain ⟨u31_, eu31_⟩ : ∃ y, y = g_sI u 0 (3 : Int32) := ⟨_, rfl⟩
        refine okk_bs (v := ((1 : Int32), u31_)) (by rw [eu31_]; exact fm_thr_3 _) ?_
        dsimp only
        have Iu31_ : IM g u31_ := by rw [eu31_]; exact IM_ix I _ (by decide)
        have h032_ : (u31_.1 0).toInt = 3 := by rw [eu31_, rdI, if_pos rfl]; decide
        have z33_ : (u31_.1 1).toInt = (u.1 1).toInt := by rw [eu31_]; rfl
        have z34_ : (u31_.1 2).toInt = (u.1 2).toInt := by rw [eu31_]; rfl
        refine okk_f (by decide) ?_
        exact okk_some (Iu31_)
    · unfold fm_call_31
      try have t36_ : (120 : Int32).toInt = (120 : Int) := (by decide : (120 : Int32).toInt = 120)
      refine okk_ne (fun c35_ c35_I => ?_) (fun c35_ c35_I => ?_)
      · unfold fm_call_45
        obtain ⟨u37_, eu37_⟩ : ∃ y, y = g_sI u 0 (2 : Int32) := ⟨_, rfl⟩
        refine okk_bs (v := ((1 : Int32), u37_)) (by rw [eu37_]; exact fm_thr_2 _ _) ?_
        dsimp only
        have Iu37_ : IM g u37_ := by rw [eu37_]; exact IM_ix I _ (by decide)
        have h038_ : (u37_.1 0).toInt = 2 := by rw [eu37_, rdI, if_pos rfl]; decide
        have z39_ : (u37_.1 1).toInt = (u.1 1).toInt := by rw [eu37_]; rfl
        have z40_ : (u37_.1 2).toInt = (u.1 2).toInt := by rw [eu37_]; rfl
        refine okk_f (by decide) ?_
        exact okk_some (Iu37_)
      · unfold fm_call_45
        obtain ⟨u41_, eu41_⟩ : ∃ y, y = g_sI u 0 (2 : Int32) := ⟨_, rfl⟩
        refine okk_bs (v := ((1 : Int32), u41_)) (by rw [eu41_]; exact fm_thr_2 _ _) ?_
        dsimp only
        have Iu41_ : IM g u41_ := by rw [eu41_]; exact IM_ix I _ (by decide)
        have h042_ : (u41_.1 0).toInt = 2 := by rw [eu41_, rdI, if_pos rfl]; decide
        have z43_ : (u41_.1 1).toInt = (u.1 1).toInt := by rw [eu41_]; rfl
        have z44_ : (u41_.1 2).toInt = (u.1 2).toInt := by rw [eu41_]; rfl
        refine okk_f (by decide) ?_
        exact okk_some (Iu41_)
  · unfold fm_call_15
    refine okk_bi (okk_fm_isRange I) (fun v45_ hv45_ => ?_)
    have p46_ := hv45_
    refine okk_ne (fun c47_ c47_I => ?_) (fun c47_ c47_I => ?_)
    · unfold fm_call_31
      try have t49_ : (120 : Int32).toInt = (120 : Int) := (by decide : (120 : Int32).toInt = 120)
      refine okk_ne (fun c48_ c48_I => ?_) (fun c48_ c48_I => ?_)
      · unfold fm_call_45
        obtain ⟨u50_, eu50_⟩ : ∃ y, y = g_sI u 0 (1 : Int32) := ⟨_, rfl⟩
        refine okk_bs (v := ((1 : Int32), u50_)) (by rw [eu50_]; exact fm_thr_1 _ _ _) ?_
        dsimp only
        have Iu50_ : IM g u50_ := by rw [eu50_]; exact IM_ix I _ (by decide)
        have h051_ : (u50_.1 0).toInt = 1 := by rw [eu50_, rdI, if_pos rfl]; decide
        have z52_ : (u50_.1 1).toInt = (u.1 1).toInt := by rw [eu50_]; rfl
        have z53_ : (u50_.1 2).toInt = (u.1 2).toInt := by rw [eu50_]; rfl
        refine okk_f (by decide) ?_
        exact okk_some (Iu50_)
      · unfold fm_call_45
        obtain ⟨u54_, eu54_⟩ : ∃ y, y = g_sI u 0 (1 : Int32) := ⟨_, rfl⟩
        refine okk_bs (v := ((1 : Int32), u54_)) (by rw [eu54_]; exact fm_thr_1 _ _ _) ?_
        dsimp only
        have Iu54_ : IM g u54_ := by rw [eu54_]; exact IM_ix I _ (by decide)
        have h055_ : (u54_.1 0).toInt = 1 := by rw [eu54_, rdI, if_pos rfl]; decide
        have z56_ : (u54_.1 1).toInt = (u.1 1).toInt := by rw [eu54_]; rfl
        have z57_ : (u54_.1 2).toInt = (u.1 2).toInt := by rw [eu54_]; rfl
        refine okk_f (by decide) ?_
        exact okk_some (Iu54_)
    · unfold fm_call_31
      try have t59_ : (120 : Int32).toInt = (120 : Int) := (by decide : (120 : Int32).toInt = 120)
      refine okk_ne (fun c58_ c58_I => ?_) (fun c58_ c58_I => ?_)
      · unfold fm_call_45
        obtain ⟨u60_, eu60_⟩ : ∃ y, y = g_sI u 0 (1 : Int32) := ⟨_, rfl⟩
        refine okk_bs (v := ((1 : Int32), u60_)) (by rw [eu60_]; exact fm_thr_1 _ _ _) ?_
        dsimp only
        have Iu60_ : IM g u60_ := by rw [eu60_]; exact IM_ix I _ (by decide)
        have h061_ : (u60_.1 0).toInt = 1 := by rw [eu60_, rdI, if_pos rfl]; decide
        have z62_ : (u60_.1 1).toInt = (u.1 1).toInt := by rw [eu60_]; rfl
        have z63_ : (u60_.1 2).toInt = (u.1 2).toInt := by rw [eu60_]; rfl
        refine okk_f (by decide) ?_
        exact okk_some (Iu60_)
      · unfold fm_call_45
        obtain ⟨u64_, eu64_⟩ : ∃ y, y = g_sI u 0 (1 : Int32) := ⟨_, rfl⟩
        refine okk_bs (v := ((1 : Int32), u64_)) (by rw [eu64_]; exact fm_thr_1 _ _ _) ?_
        dsimp only
        have Iu64_ : IM g u64_ := by rw [eu64_]; exact IM_ix I _ (by decide)
        have h065_ : (u64_.1 0).toInt = 1 := by rw [eu64_, rdI, if_pos rfl]; decide
        have z66_ : (u64_.1 1).toInt = (u.1 1).toInt := by rw [eu64_]; rfl
        have z67_ : (u64_.1 2).toInt = (u.1 2).toInt := by rw [eu64_]; rfl
        refine okk_f (by decide) ?_
        exact okk_some (Iu64_)
set_option maxHeartbeats 4000000 in
theorem okk_fm_split {g : Nat → Int32} {u : g_S} (I : IM g u) {p1 : Int32} : okk (fm_split u p1) (fun r => IM g r.2) := by
  unfold fm_split
  have z1_ := IM_s I
  refine okk_isCall (fun b2_ => ?_) (fun b2_ => ?_)
  · have t3_ : ((u.1 1) - (1 : Int32)).toInt = ((u.1 1).toInt - (1 : Int)) := (oi_sub (a := (u.1 1)) (b := (1 : Int32)) rfl (by decide : (1 : Int32).toInt = 1) (by omega) (by omega))
    refine okk_f (by decide) ?_
    refine okk_ck (vp_I (by omega) (by omega)) ?_
    have r5_ := IM_r13 I p1.toNatClampNeg
    try have t6_ : (0 : Int32).toInt = (0 : Int) := (by decide : (0 : Int32).toInt = 0)
    refine okk_lt (fun c4_ c4_I => ?_) (fun c4_ c4_I => ?_)
    · unfold fm_split_32
      refine okk_t (by decide) ?_
      refine okk_f (by decide) ?_
      unfold fm_split_52
      try have t8_ : (60 : Int32).toInt = (60 : Int) := (by decide : (60 : Int32).toInt = 60)
      refine okk_ne (fun c7_ c7_I => ?_) (fun c7_ c7_I => ?_)
      · unfold fm_split_66
        obtain ⟨u9_, eu9_⟩ : ∃ y, y = g_sI u 0 (2 : Int32) := ⟨_, rfl⟩
        refine okk_bs (v := ((1 : Int32), u9_)) (by rw [eu9_]; exact fm_thr_2 _ _) ?_
        dsimp only
        have Iu9_ : IM g u9_ := by rw [eu9_]; exact IM_ix I _ (by decide)
        have h010_ : (u9_.1 0).toInt = 2 := by rw [eu9_, rdI, if_pos rfl]; decide
        have z11_ : (u9_.1 1).toInt = (u.1 1).toInt := by rw [eu9_]; rfl
        have z12_ : (u9_.1 2).toInt = (u.1 2).toInt := by rw [eu9_]; rfl
        refine okk_f (by decide) ?_
        exact okk_some (Iu9_)
      · unfold fm_split_66
        obtain ⟨u13_, eu13_⟩ : ∃ y, y = g_sI u 0 (2 : Int32) := ⟨_, rfl⟩
        refine okk_bs (v := ((1 : Int32), u13_)) (by rw [eu13_]; exact fm_thr_2 _ _) ?_
        dsimp only
        have Iu13_ : IM g u13_ := by rw [eu13_]; exact IM_ix I _ (by decide)
        have h014_ : (u13_.1 0).toInt = 2 := by rw [eu13_, rdI, if_pos rfl]; decide
        have z15_ : (u13_.1 1).toInt = (u.1 1).toInt := by rw [eu13_]; rfl
        have z16_ : (u13_.1 2).toInt = (u.1 2).toInt := by rw [eu13_]; rfl
        refine okk_f (by decide) ?_
        exact okk_some (Iu13_)
    · refine okk_bi (okk_fm_isOpen I (by omega) (by omega)) (fun v17_ hv17_ => ?_)
      have p18_ := hv17_
      refine okk_eq (fun c19_ c19_I => ?_) (fun c19_ c19_I => ?_)
      · unfold fm_split_32
        refine okk_t (by decide) ?_
        refine okk_f (by decide) ?_
        unfold fm_split_52
        try have t21_ : (60 : Int32).toInt = (60 : Int) := (by decide : (60 : Int32).toInt = 60)
        refine okk_ne (fun c20_ c20_I => ?_) (fun c20_ c20_I => ?_)
        · unfold fm_split_66
          obtain ⟨u22_, eu22_⟩ : ∃ y, y = g_sI u 0 (2 : Int32) := ⟨_, rfl⟩
          refine okk_bs (v := ((1 : Int32), u22_)) (by rw [eu22_]; exact fm_thr_2 _ _) ?_
          dsimp only
          have Iu22_ : IM g u22_ := by rw [eu22_]; exact IM_ix I _ (by decide)
          have h023_ : (u22_.1 0).toInt = 2 := by rw [eu22_, rdI, if_pos rfl]; decide
          have z24_ : (u22_.1 1).toInt = (u.1 1).toInt := by rw [eu22_]; rfl
          have z25_ : (u22_.1 2).toInt = (u.1 2).toInt := by rw [eu22_]; rfl
          refine okk_f (by decide) ?_
          exact okk_some (Iu22_)
        · unfold fm_split_66
          obtain ⟨u26_, eu26_⟩ : ∃ y, y = g_sI u 0 (2 : Int32) := ⟨_, rfl⟩
          refine okk_bs (v := ((1 : Int32), u26_)) (by rw [eu26_]; exact fm_thr_2 _ _) ?_
          dsimp only
          have Iu26_ : IM g u26_ := by rw [eu26_]; exact IM_ix I _ (by decide)
          have h027_ : (u26_.1 0).toInt = 2 := by rw [eu26_, rdI, if_pos rfl]; decide
          have z28_ : (u26_.1 1).toInt = (u.1 1).toInt := by rw [eu26_]; rfl
          have z29_ : (u26_.1 2).toInt = (u.1 2).toInt := by rw [eu26_]; rfl
          refine okk_f (by decide) ?_
          exact okk_some (Iu26_)
      · unfold fm_split_32
        refine okk_t (by decide) ?_
        refine okk_t (by decide) ?_
        unfold fm_split_52
        try have t31_ : (60 : Int32).toInt = (60 : Int) := (by decide : (60 : Int32).toInt = 60)
        refine okk_ne (fun c30_ c30_I => ?_) (fun c30_ c30_I => ?_)
        · exact okk_split66 I (by omega) (by omega) (by omega) (by omega)
        · unfold fm_split_66
          obtain ⟨u32_, eu32_⟩ : ∃ y, y = g_sI u 0 (3 : Int32) := ⟨_, rfl⟩
          refine okk_bs (v := ((1 : Int32), u32_)) (by rw [eu32_]; exact fm_thr_3 _) ?_
          dsimp only
          have Iu32_ : IM g u32_ := by rw [eu32_]; exact IM_ix I _ (by decide)
          have h033_ : (u32_.1 0).toInt = 3 := by rw [eu32_, rdI, if_pos rfl]; decide
          have z34_ : (u32_.1 1).toInt = (u.1 1).toInt := by rw [eu32_]; rfl
          have z35_ : (u32_.1 2).toInt = (u.1 2).toInt := by rw [eu32_]; rfl
          refine okk_f (by decide) ?_
          exact okk_some (Iu32_)
  · have t36_ : ((u.1 1) - (1 : Int32)).toInt = ((u.1 1).toInt - (1 : Int)) := (oi_sub (a := (u.1 1)) (b := (1 : Int32)) rfl (by decide : (1 : Int32).toInt = 1) (by omega) (by omega))
    refine okk_t (by decide) ?_
    unfold fm_split_32
    refine okk_f (by decide) ?_
    refine okk_f (by decide) ?_
    unfold fm_split_52
    try have t38_ : (60 : Int32).toInt = (60 : Int) := (by decide : (60 : Int32).toInt = 60)
    refine okk_ne (fun c37_ c37_I => ?_) (fun c37_ c37_I => ?_)
    · unfold fm_split_66
      obtain ⟨u39_, eu39_⟩ : ∃ y, y = g_sI u 0 (1 : Int32) := ⟨_, rfl⟩
      refine okk_bs (v := ((1 : Int32), u39_)) (by rw [eu39_]; exact fm_thr_1 _ _ _) ?_
      dsimp only
      have Iu39_ : IM g u39_ := by rw [eu39_]; exact IM_ix I _ (by decide)
      have h040_ : (u39_.1 0).toInt = 1 := by rw [eu39_, rdI, if_pos rfl]; decide
      have z41_ : (u39_.1 1).toInt = (u.1 1).toInt := by rw [eu39_]; rfl
      have z42_ : (u39_.1 2).toInt = (u.1 2).toInt := by rw [eu39_]; rfl
      refine okk_f (by decide) ?_
      exact okk_some (Iu39_)
    · unfold fm_split_66
      obtain ⟨u43_, eu43_⟩ : ∃ y, y = g_sI u 0 (1 : Int32) := ⟨_, rfl⟩
      refine okk_bs (v := ((1 : Int32), u43_)) (by rw [eu43_]; exact fm_thr_1 _ _ _) ?_
      dsimp only
      have Iu43_ : IM g u43_ := by rw [eu43_]; exact IM_ix I _ (by decide)
      have h044_ : (u43_.1 0).toInt = 1 := by rw [eu43_, rdI, if_pos rfl]; decide
      have z45_ : (u43_.1 1).toInt = (u.1 1).toInt := by rw [eu43_]; rfl
      have z46_ : (u43_.1 2).toInt = (u.1 2).toInt := by rw [eu43_]; rfl
      refine okk_f (by decide) ?_
      exact okk_some (Iu43_)
set_option maxHeartbeats 4000000 in
theorem okk_fm_merge {g : Nat → Int32} {u : g_S} (I : IM g u) {p1 : Int32} {p2 : Int32} : okk (fm_merge u p1 p2) (fun r => IM g r.2) := by
  unfold fm_merge
  have z1_ := IM_s I
  refine okk_isEvent (fun b2_ => ?_) (fun b2_ => ?_)
  · have t3_ : ((u.1 2) - (1 : Int32)).toInt = ((u.1 2).toInt - (1 : Int)) := (oi_sub (a := (u.1 2)) (b := (1 : Int32)) rfl (by decide : (1 : Int32).toInt = 1) (by omega) (by omega))
    refine okk_f (by decide) ?_
    refine okk_isCall (fun b4_ => ?_) (fun b4_ => ?_)
    · have t5_ : ((u.1 1) - (1 : Int32)).toInt = ((u.1 1).toInt - (1 : Int)) := (oi_sub (a := (u.1 1)) (b := (1 : Int32)) rfl (by decide : (1 : Int32).toInt = 1) (by omega) (by omega))
      refine okk_f (by decide) ?_
      unfold fm_merge_21
      refine okk_f (by decide) ?_
      refine okk_ck (vp_I (by omega) (by omega)) ?_
      try have t7_ : (0 : Int32).toInt = (0 : Int) := (by decide : (0 : Int32).toInt = 0)
      refine okk_ne (fun c6_ c6_I => ?_) (fun c6_ c6_I => ?_)
      · unfold fm_merge_58
        refine okk_t (by decide) ?_
        refine okk_f (by decide) ?_
        unfold fm_merge_80
        obtain ⟨u8_, eu8_⟩ : ∃ y, y = g_sI u 0 (2 : Int32) := ⟨_, rfl⟩
        refine okk_bs (v := ((1 : Int32), u8_)) (by rw [eu8_]; exact fm_thr_2 _ _) ?_
        dsimp only
        have Iu8_ : IM g u8_ := by rw [eu8_]; exact IM_ix I _ (by decide)
        have h09_ : (u8_.1 0).toInt = 2 := by rw [eu8_, rdI, if_pos rfl]; decide
        have z10_ : (u8_.1 1).toInt = (u.1 1).toInt := by rw [eu8_]; rfl
        have z11_ : (u8_.1 2).toInt = (u.1 2).toInt := by rw [eu8_]; rfl
        refine okk_f (by decide) ?_
        exact okk_some (Iu8_)
      · refine okk_bi (okk_fm_isOpen I (by omega) (by omega)) (fun v12_ hv12_ => ?_)
        have p13_ := hv12_
        refine okk_eq (fun c14_ c14_I => ?_) (fun c14_ c14_I => ?_)
        · unfold fm_merge_58
          refine okk_t (by decide) ?_
          refine okk_f (by decide) ?_
          unfold fm_merge_80
          obtain ⟨u15_, eu15_⟩ : ∃ y, y = g_sI u 0 (2 : Int32) := ⟨_, rfl⟩
          refine okk_bs (v := ((1 : Int32), u15_)) (by rw [eu15_]; exact fm_thr_2 _ _) ?_
          dsimp only
          have Iu15_ : IM g u15_ := by rw [eu15_]; exact IM_ix I _ (by decide)
          have h016_ : (u15_.1 0).toInt = 2 := by rw [eu15_, rdI, if_pos rfl]; decide
          have z17_ : (u15_.1 1).toInt = (u.1 1).toInt := by rw [eu15_]; rfl
          have z18_ : (u15_.1 2).toInt = (u.1 2).toInt := by rw [eu15_]; rfl
          refine okk_f (by decide) ?_
          exact okk_some (Iu15_)
        · refine okk_ck (vp_I (by omega) (by omega)) ?_
          have r20_ := IM_r12 I p2.toNatClampNeg
          refine okk_eq (fun c19_ c19_I => ?_) (fun c19_ c19_I => ?_)
          · unfold fm_merge_58
            refine okk_t (by decide) ?_
            refine okk_f (by decide) ?_
            unfold fm_merge_80
            obtain ⟨u21_, eu21_⟩ : ∃ y, y = g_sI u 0 (2 : Int32) := ⟨_, rfl⟩
            refine okk_bs (v := ((1 : Int32), u21_)) (by rw [eu21_]; exact fm_thr_2 _ _) ?_
            dsimp only
            have Iu21_ : IM g u21_ := by rw [eu21_]; exact IM_ix I _ (by decide)
            have h022_ : (u21_.1 0).toInt = 2 := by rw [eu21_, rdI, if_pos rfl]; decide
            have z23_ : (u21_.1 1).toInt = (u.1 1).toInt := by rw [eu21_]; rfl
            have z24_ : (u21_.1 2).toInt = (u.1 2).toInt := by rw [eu21_]; rfl
            refine okk_f (by decide) ?_
            exact okk_some (Iu21_)
          · unfold fm_merge_58
            refine okk_t (by decide) ?_
            refine okk_t (by decide) ?_
            exact okk_merge80 I (by omega) (by omega) c6_ (by omega) (by omega) c19_
    · have t25_ : ((u.1 1) - (1 : Int32)).toInt = ((u.1 1).toInt - (1 : Int)) := (oi_sub (a := (u.1 1)) (b := (1 : Int32)) rfl (by decide : (1 : Int32).toInt = 1) (by omega) (by omega))
      refine okk_t (by decide) ?_
      unfold fm_merge_21
      refine okk_t (by decide) ?_
      unfold fm_merge_58
      refine okk_f (by decide) ?_
      refine okk_f (by decide) ?_
      unfold fm_merge_80
      obtain ⟨u26_, eu26_⟩ : ∃ y, y = g_sI u 0 (1 : Int32) := ⟨_, rfl⟩
      refine okk_bs (v := ((1 : Int32), u26_)) (by rw [eu26_]; exact fm_thr_1 _ _ _) ?_
      dsimp only
      have Iu26_ : IM g u26_ := by rw [eu26_]; exact IM_ix I _ (by decide)
      have h027_ : (u26_.1 0).toInt = 1 := by rw [eu26_, rdI, if_pos rfl]; decide
      have z28_ : (u26_.1 1).toInt = (u.1 1).toInt := by rw [eu26_]; rfl
      have z29_ : (u26_.1 2).toInt = (u.1 2).toInt := by rw [eu26_]; rfl
      refine okk_f (by decide) ?_
      exact okk_some (Iu26_)
  · have t30_ : ((u.1 2) - (1 : Int32)).toInt = ((u.1 2).toInt - (1 : Int)) := (oi_sub (a := (u.1 2)) (b := (1 : Int32)) rfl (by decide : (1 : Int32).toInt = 1) (by omega) (by omega))
    refine okk_t (by decide) ?_
    unfold fm_merge_21
    refine okk_t (by decide) ?_
    unfold fm_merge_58
    refine okk_f (by decide) ?_
    refine okk_f (by decide) ?_
    unfold fm_merge_80
    obtain ⟨u31_, eu31_⟩ : ∃ y, y = g_sI u 0 (1 : Int32) := ⟨_, rfl⟩
    refine okk_bs (v := ((1 : Int32), u31_)) (by rw [eu31_]; exact fm_thr_1 _ _ _) ?_
    dsimp only
    have Iu31_ : IM g u31_ := by rw [eu31_]; exact IM_ix I _ (by decide)
    have h032_ : (u31_.1 0).toInt = 1 := by rw [eu31_, rdI, if_pos rfl]; decide
    have z33_ : (u31_.1 1).toInt = (u.1 1).toInt := by rw [eu31_]; rfl
    have z34_ : (u31_.1 2).toInt = (u.1 2).toInt := by rw [eu31_]; rfl
    refine okk_f (by decide) ?_
    exact okk_some (Iu31_)
set_option maxHeartbeats 4000000 in
theorem okk_fm_reasonFor {g : Nat → Int32} {u : g_S} (I : IM g u) {p1 : Int32} {p2 : Int32} {p3 : Int32} {p4 : Int32} {p5 : Int32} {p6 : Int32} : okk (fm_reasonFor u p1 p2 p3 p4 p5 p6) (fun r => IM g r.2) := by
  unfold fm_reasonFor
  have z1_ := IM_s I
  refine okk_bi (okk_fm_isKnown ) (fun v2_ hv2_ => ?_)
  have p3_ := hv2_
  try have t5_ : (0 : Int32).toInt = (0 : Int) := (by decide : (0 : Int32).toInt = 0)
  refine okk_ne (fun c4_ c4_I => ?_) (fun c4_ c4_I => ?_)
  · unfold fm_reasonFor_15
    refine okk_bi (okk_fm_isRange I) (fun v6_ hv6_ => ?_)
    have p7_ := hv6_
    refine okk_ne (fun c8_ c8_I => ?_) (fun c8_ c8_I => ?_)
    · unfold fm_reasonFor_31
      obtain ⟨u9_, eu9_⟩ : ∃ y, y = g_sI u 0 (0 : Int32) := ⟨_, rfl⟩
      refine okk_bs (v := ((0 : Int32), u9_)) (by rw [eu9_]; exact fm_thr_0 _) ?_
      dsimp only
      have Iu9_ : IM g u9_ := by rw [eu9_]; exact IM_ix I _ (by decide)
      have h010_ : (u9_.1 0).toInt = 0 := by rw [eu9_, rdI, if_pos rfl]; decide
      have z11_ : (u9_.1 1).toInt = (u.1 1).toInt := by rw [eu9_]; rfl
      have z12_ : (u9_.1 2).toInt = (u.1 2).toInt := by rw [eu9_]; rfl
      refine okk_t (by decide) ?_
      have z13_ := IM_s Iu9_
      refine okk_bi (okk_fm_reason Iu9_ (by omega) (by omega)) (fun v14_ hv14_ => ?_)
      obtain ⟨p15_, p16_, p17_, p18_, p19_⟩ := hv14_
      exact okk_some (p15_)
    · unfold fm_reasonFor_31
      obtain ⟨u20_, eu20_⟩ : ∃ y, y = g_sI u 0 (2 : Int32) := ⟨_, rfl⟩
      refine okk_bs (v := ((1 : Int32), u20_)) (by rw [eu20_]; exact fm_thr_2 _ _) ?_
      dsimp only
      have Iu20_ : IM g u20_ := by rw [eu20_]; exact IM_ix I _ (by decide)
      have h021_ : (u20_.1 0).toInt = 2 := by rw [eu20_, rdI, if_pos rfl]; decide
      have z22_ : (u20_.1 1).toInt = (u.1 1).toInt := by rw [eu20_]; rfl
      have z23_ : (u20_.1 2).toInt = (u.1 2).toInt := by rw [eu20_]; rfl
      refine okk_f (by decide) ?_
      exact okk_some (Iu20_)
  · unfold fm_reasonFor_15
    refine okk_bi (okk_fm_isRange I) (fun v24_ hv24_ => ?_)
    have p25_ := hv24_
    refine okk_ne (fun c26_ c26_I => ?_) (fun c26_ c26_I => ?_)
    · unfold fm_reasonFor_31
      obtain ⟨u27_, eu27_⟩ : ∃ y, y = g_sI u 0 (1 : Int32) := ⟨_, rfl⟩
      refine okk_bs (v := ((1 : Int32), u27_)) (by rw [eu27_]; exact fm_thr_1 _ _ _) ?_
      dsimp only
      have Iu27_ : IM g u27_ := by rw [eu27_]; exact IM_ix I _ (by decide)
      have h028_ : (u27_.1 0).toInt = 1 := by rw [eu27_, rdI, if_pos rfl]; decide
      have z29_ : (u27_.1 1).toInt = (u.1 1).toInt := by rw [eu27_]; rfl
      have z30_ : (u27_.1 2).toInt = (u.1 2).toInt := by rw [eu27_]; rfl
      refine okk_f (by decide) ?_
      exact okk_some (Iu27_)
    · unfold fm_reasonFor_31
      obtain ⟨u31_, eu31_⟩ : ∃ y, y = g_sI u 0 (1 : Int32) := ⟨_, rfl⟩
      refine okk_bs (v := ((1 : Int32), u31_)) (by rw [eu31_]; exact fm_thr_1 _ _ _) ?_
      dsimp only
      have Iu31_ : IM g u31_ := by rw [eu31_]; exact IM_ix I _ (by decide)
      have h032_ : (u31_.1 0).toInt = 1 := by rw [eu31_, rdI, if_pos rfl]; decide
      have z33_ : (u31_.1 1).toInt = (u.1 1).toInt := by rw [eu31_]; rfl
      have z34_ : (u31_.1 2).toInt = (u.1 2).toInt := by rw [eu31_]; rfl
      refine okk_f (by decide) ?_
      exact okk_some (Iu31_)
