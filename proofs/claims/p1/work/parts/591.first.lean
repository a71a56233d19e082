set_option maxHeartbeats 4000000 in
theorem okz_fcJ_state {g : Nat → Int32} {u : g_S} (I : IC g u) {p1 : Int32} {p2 : Int32} (h0 : (u.1 0).toInt = 0) (h1 : (u.1 1).toInt = 0) : okk (fcJ_state u p1 p2) (fun r => (r.1 = 1)) := by
  unfold fcJ_state
  have z1_ := IC_s I
  refine okk_isBelow (fun b2_ => ?_) (fun b2_ => ?_)
  · refine okk_bs (v := (0 : Nat)) (by decide) ?_
    refine okk_t (by decide) ?_
    try have t4_ : (0 : Int32).toInt = (0 : Int) := (by decide : (0 : Int32).toInt = 0)
    refine okk_lt (fun c3_ c3_I => ?_) (fun c3_ c3_I => ?_)
    · unfold fcJ_state_28
      refine okk_bs (v := (2 : Nat)) (by decide) ?_
      refine okk_f (by decide) ?_
      exact okk_some ((by show 2 = 1; omega))
    · try have t6_ : (2 : Int32).toInt = (2 : Int) := (by decide : (2 : Int32).toInt = 2)
      refine okk_lt (fun c5_ c5_I => ?_) (fun c5_ c5_I => ?_)
      · unfold fcJ_state_28
        refine okk_bs (v := (2 : Nat)) (by decide) ?_
        refine okk_f (by decide) ?_
        exact okk_some ((by show 2 = 1; omega))
      · unfold fcJ_state_28
        refine okk_bs (v := (0 : Nat)) (by decide) ?_
        refine okk_t (by decide) ?_
        refine okk_ck (vp_I (by omega) (by omega)) ?_
        refine okk_eq (fun c7_ c7_I => ?_) (fun c7_ c7_I => ?_)
        · unfold fcJ_state_62
          refine okk_bs (v := (3 : Nat)) (by decide) ?_
          refine okk_f (by decide) ?_
          exact okk_some ((by show 3 = 1; omega))
        · refine okk_ck (vp_I (by omega) (by omega)) ?_
          try have t9_ : (3 : Int32).toInt = (3 : Int) := (by decide : (3 : Int32).toInt = 3)
          refine okk_eq (fun c8_ c8_I => ?_) (fun c8_ c8_I => ?_)
          · unfold fcJ_state_62
            refine okk_bs (v := (3 : Nat)) (by decide) ?_
            refine okk_f (by decide) ?_
            exact okk_some ((by show 3 = 1; omega))
          · unfold fcJ_state_62
            refine okk_bs (v := (0 : Nat)) (by decide) ?_
            refine okk_t (by decide) ?_
            refine okk_ck (vp_I (by omega) (by omega)) ?_
            refine okk_gl (fun u510_ eu510_ => ?_)
            have Iu510_ : IC g u510_ := by rw [eu510_]; exact IC_w17 I _ _ (IC_f I _ (Or.inl c8_))
            have z11_ : (u510_.1 0).toInt = (u.1 0).toInt := by rw [eu510_]; rfl
            have z12_ : (u510_.1 1).toInt = (u.1 1).toInt := by rw [eu510_]; rfl
            exact okk_some ((by show 0 = 1; omega))
  · refine okk_bs (v := (1 : Nat)) (by decide) ?_
    refine okk_f (by decide) ?_
    exact okk_some ((by show 1 = 1; omega))
set_option maxHeartbeats 4000000 in
theorem okz_fcJ_share {g : Nat → Int32} {u : g_S} (I : IC g u) {p1 : Int32} {p2 : Int32} (h0 : (u.1 0).toInt = 0) (h1 : (u.1 1).toInt = 0) : okk (fcJ_share u p1 p2) (fun r => (r.1 = 1)) := by
  unfold fcJ_share
  have z1_ := IC_s I
  refine okk_bi (okk_fcJ_needTwoCalls I) (fun v2_ hv2_ => ?_)
  have p3_ := hv2_
  refine okk_if (fun c4_ => ?_) (fun c4_ => ?_)
  · have t5_ : (if p1 < p2 then p2 else p1).toInt = p2.toInt ∨ (if p1 < p2 then p2 else p1).toInt = p1.toInt := oi_ite
    refine okk_ck (vp_I (by omega) (by omega)) ?_
    have r7_ := IC_r8 I (if p1 < p2 then p2 else p1).toNatClampNeg
    refine okk_gl (fun w26_ ew26_ => ?_)
    have t8_ : w26_.toInt = (u.2 8 (if p1 < p2 then p2 else p1).toNatClampNeg).toInt := by rw [ew26_]
    refine okk_ck (vp_I (by omega) (by omega)) ?_
    refine okk_ck (vp_I (by omega) (by omega)) ?_
    refine okk_bi (okk_fcU_weigh I (by omega) (by omega)) (fun v9_ hv9_ => ?_)
    have p10_ := hv9_
    try have t12_ : (0 : Int32).toInt = (0 : Int) := (by decide : (0 : Int32).toInt = 0)
    refine okk_ne (fun c11_ c11_I => ?_) (fun c11_ c11_I => ?_)
    · refine okk_ck (vp_I (by omega) (by omega)) ?_
      refine okk_ck (vp_I (by omega) (by omega)) ?_
      refine okk_bi (okk_fcU_weigh I (by omega) (by omega)) (fun v13_ hv13_ => ?_)
      have p14_ := hv13_
      refine okk_eq (fun c15_ c15_I => ?_) (fun c15_ c15_I => ?_)
      · exfalso; omega
      · exact okk_some ((by show 0 = 1; omega))
    · exact okk_some ((by show 5 = 1; omega))
  · try have t16_ : (0 : Int32).toInt = (0 : Int) := (by decide : (0 : Int32).toInt = 0)
    exact okk_some ((by show v2_ = 1; omega))
set_option maxHeartbeats 4000000 in
theorem okz_fcJ_agree {g : Nat → Int32} {u : g_S} (I : IC g u) {p1 : Int32} {p2 : Int32} (h0 : (u.1 0).toInt = 0) (h1 : (u.1 1).toInt = 0) : okk (fcJ_agree u p1 p2) (fun r => (r.1 = 1)) := by
  unfold fcJ_agree
  have z1_ := IC_s I
  refine okk_bi (okk_fcJ_needTwoCalls I) (fun v2_ hv2_ => ?_)
  have p3_ := hv2_
  refine okk_if (fun c4_ => ?_) (fun c4_ => ?_)
  · have t5_ : (if p2 < p1 then p2 else p1).toInt = p2.toInt ∨ (if p2 < p1 then p2 else p1).toInt = p1.toInt := oi_ite
    have t6_ : (if p1 < p2 then p2 else p1).toInt = p2.toInt ∨ (if p1 < p2 then p2 else p1).toInt = p1.toInt := oi_ite
    refine okk_bi (okk_fcJ_agreement I (by omega) (by omega) (by omega) (by omega)) (fun v7_ hv7_ => ?_)
    have p8_ := hv7_
    exact okk_some ((by show 0 = 1; omega))
  · try have t9_ : (0 : Int32).toInt = (0 : Int) := (by decide : (0 : Int32).toInt = 0)
    exact okk_some ((by show v2_ = 1; omega))
set_option maxHeartbeats 4000000 in
theorem okz_fcJ_callAt {g : Nat → Int32} {u : g_S} (I : IC g u) {p1 : Int32} {p2 : Int32} (h0 : (u.1 0).toInt = 0) (h1 : (u.1 1).toInt = 0) : okk (fcJ_callAt u p1 p2) (fun r => (r.1 = 1)) := by
  unfold fcJ_callAt
  have z1_ := IC_s I
  refine okk_isBelow (fun b2_ => ?_) (fun b2_ => ?_)
  · refine okk_f (by decide) ?_
    try have t3_ : (5 : Int32).toInt = (5 : Int) := (by decide : (5 : Int32).toInt = 5)
    refine okk_isBelow (fun b4_ => ?_) (fun b4_ => ?_)
    · refine okk_f (by decide) ?_
      unfold fcJ_callAt_27
      refine okk_bs (v := (0 : Nat)) (by decide) ?_
      refine okk_t (by decide) ?_
      try have t6_ : (0 : Int32).toInt = (0 : Int) := (by decide : (0 : Int32).toInt = 0)
      refine okk_eq (fun c5_ c5_I => ?_) (fun c5_ c5_I => ?_)
      · refine okk_ck (vp_I (by omega) (by omega)) ?_
        have r7_ := IC_r13 I p1.toNatClampNeg
        exact okk_some ((by show 0 = 1; omega))
      · try have t9_ : (1 : Int32).toInt = (1 : Int) := (by decide : (1 : Int32).toInt = 1)
        refine okk_eq (fun c8_ c8_I => ?_) (fun c8_ c8_I => ?_)
        · refine okk_ck (vp_I (by omega) (by omega)) ?_
          have r10_ := IC_r14 I p1.toNatClampNeg
          exact okk_some ((by show 0 = 1; omega))
        · try have t12_ : (2 : Int32).toInt = (2 : Int) := (by decide : (2 : Int32).toInt = 2)
          refine okk_eq (fun c11_ c11_I => ?_) (fun c11_ c11_I => ?_)
          · refine okk_ck (vp_I (by omega) (by omega)) ?_
            exact okk_some ((by show 0 = 1; omega))
          · try have t14_ : (3 : Int32).toInt = (3 : Int) := (by decide : (3 : Int32).toInt = 3)
            refine okk_eq (fun c13_ c13_I => ?_) (fun c13_ c13_I => ?_)
            · refine okk_ck (vp_I (by omega) (by omega)) ?_
              have r15_ := IC_r8 I p1.toNatClampNeg
              exact okk_some ((by show 0 = 1; omega))
            · refine okk_ck (vp_I (by omega) (by omega)) ?_
              exact okk_some ((by show 0 = 1; omega))
    · refine okk_t (by decide) ?_
      unfold fcJ_callAt_27
      refine okk_bs (v := (1 : Nat)) (by decide) ?_
      refine okk_f (by decide) ?_
      try have t16_ : (0 : Int32).toInt = (0 : Int) := (by decide : (0 : Int32).toInt = 0)
      exact okk_some ((by show 1 = 1; omega))
  · refine okk_t (by decide) ?_
    unfold fcJ_callAt_27
    refine okk_bs (v := (1 : Nat)) (by decide) ?_
    refine okk_f (by decide) ?_
    try have t17_ : (0 : Int32).toInt = (0 : Int) := (by decide : (0 : Int32).toInt = 0)
    exact okk_some ((by show 1 = 1; omega))
set_option maxHeartbeats 4000000 in
theorem okz_fcJ_eventAt {g : Nat → Int32} {u : g_S} (I : IC g u) {p1 : Int32} {p2 : Int32} (h0 : (u.1 0).toInt = 0) (h1 : (u.1 1).toInt = 0) : okk (fcJ_eventAt u p1 p2) (fun r => (r.1 = 1)) := by
  unfold fcJ_eventAt
  have z1_ := IC_s I
  refine okk_isBelow (fun b2_ => ?_) (fun b2_ => ?_)
  · refine okk_f (by decide) ?_
    try have t3_ : (7 : Int32).toInt = (7 : Int) := (by decide : (7 : Int32).toInt = 7)
    refine okk_isBelow (fun b4_ => ?_) (fun b4_ => ?_)
    · refine okk_f (by decide) ?_
      unfold fcJ_eventAt_28
      refine okk_bs (v := (0 : Nat)) (by decide) ?_
      refine okk_t (by decide) ?_
      try have t6_ : (0 : Int32).toInt = (0 : Int) := (by decide : (0 : Int32).toInt = 0)
      refine okk_eq (fun c5_ c5_I => ?_) (fun c5_ c5_I => ?_)
      · refine okk_ck (vp_I (by omega) (by omega)) ?_
        exact okk_some ((by show 0 = 1; omega))
      · try have t8_ : (1 : Int32).toInt = (1 : Int) := (by decide : (1 : Int32).toInt = 1)
        refine okk_eq (fun c7_ c7_I => ?_) (fun c7_ c7_I => ?_)
        · refine okk_bi (okk_fcA_countIn I) (fun v9_ hv9_ => ?_)
          have p10_ := hv9_
          exact okk_some ((by show 0 = 1; omega))
        · try have t12_ : (2 : Int32).toInt = (2 : Int) := (by decide : (2 : Int32).toInt = 2)
          refine okk_eq (fun c11_ c11_I => ?_) (fun c11_ c11_I => ?_)
          · refine okk_ck (vp_I (by omega) (by omega)) ?_
            exact okk_some ((by show 0 = 1; omega))
          · try have t14_ : (3 : Int32).toInt = (3 : Int) := (by decide : (3 : Int32).toInt = 3)
            refine okk_eq (fun c13_ c13_I => ?_) (fun c13_ c13_I => ?_)
            · refine okk_bi (okk_fcA_weighEvent I) (fun v15_ hv15_ => ?_)
              have p16_ := hv15_
              exact okk_some ((by show 0 = 1; omega))
            · try have t18_ : (4 : Int32).toInt = (4 : Int) := (by decide : (4 : Int32).toInt = 4)
              refine okk_eq (fun c17_ c17_I => ?_) (fun c17_ c17_I => ?_)
              · refine okk_bi (okk_fcA_pointOf I) (fun v19_ hv19_ => ?_)
                have p20_ := hv19_
                exact okk_some ((by show 0 = 1; omega))
              · try have t22_ : (5 : Int32).toInt = (5 : Int) := (by decide : (5 : Int32).toInt = 5)
                refine okk_eq (fun c21_ c21_I => ?_) (fun c21_ c21_I => ?_)
                · refine okk_ck (vp_I (by omega) (by omega)) ?_
                  have r23_ := IC_r19 I p1.toNatClampNeg
                  exact okk_some ((by show 0 = 1; omega))
                · refine okk_bi (okk_fcA_latestTimeOf I) (fun v24_ hv24_ => ?_)
                  have p25_ := hv24_
                  exact okk_some ((by show 0 = 1; omega))
    · refine okk_t (by decide) ?_
      unfold fcJ_eventAt_28
      refine okk_bs (v := (1 : Nat)) (by decide) ?_
      refine okk_f (by decide) ?_
      try have t26_ : (0 : Int32).toInt = (0 : Int) := (by decide : (0 : Int32).toInt = 0)
      exact okk_some ((by show 1 = 1; omega))
  · refine okk_t (by decide) ?_
    unfold fcJ_eventAt_28
    refine okk_bs (v := (1 : Nat)) (by decide) ?_
    refine okk_f (by decide) ?_
    try have t27_ : (0 : Int32).toInt = (0 : Int) := (by decide : (0 : Int32).toInt = 0)
    exact okk_some ((by show 1 = 1; omega))
set_option maxHeartbeats 4000000 in
theorem okz_fcJ_member {g : Nat → Int32} {u : g_S} (I : IC g u) {p1 : Int32} {p2 : Int32} (h0 : (u.1 0).toInt = 0) (h1 : (u.1 1).toInt = 0) : okk (fcJ_member u p1 p2) (fun r => (r.1 = 1)) := by
  unfold fcJ_member
  have z1_ := IC_s I
  refine okk_isBelow (fun b2_ => ?_) (fun b2_ => ?_)
  · refine okk_bs (v := (0 : Nat)) (by decide) ?_
    refine okk_t (by decide) ?_
    refine okk_bi (okk_fcA_memberOf I) (fun v3_ hv3_ => ?_)
    have p4_ := hv3_
    try have t6_ : (-1 : Int32).toInt = (-1 : Int) := (by decide : (-1 : Int32).toInt = -1)
    refine okk_eq (fun c5_ c5_I => ?_) (fun c5_ c5_I => ?_)
    · refine okk_bs (v := (2 : Nat)) (by decide) ?_
      refine okk_f (by decide) ?_
      try have t7_ : (0 : Int32).toInt = (0 : Int) := (by decide : (0 : Int32).toInt = 0)
      exact okk_some ((by show 2 = 1; omega))
    · refine okk_bs (v := (0 : Nat)) (by decide) ?_
      refine okk_t (by decide) ?_
      exact okk_some ((by show 0 = 1; omega))
  · refine okk_bs (v := (1 : Nat)) (by decide) ?_
    refine okk_f (by decide) ?_
    try have t8_ : (0 : Int32).toInt = (0 : Int) := (by decide : (0 : Int32).toInt = 0)
    exact okk_some ((by show 1 = 1; omega))
set_option maxHeartbeats 4000000 in
theorem okz_fm_isRange {g : Nat → Int32} {u : g_S} (I : IM g u) {p1 : Int32} {p2 : Int32} {p3 : Int32} (h0 : (u.1 1).toInt = 0) : okk (fm_isRange u p1 p2 p3) (fun r => ((r.toInt = 1 ∧ (0 ≤ p1.toInt ∧ p1.toInt ≤ 999) ∧ (-1 ≤ p2.toInt ∧ p2.toInt ≤ 99999999) ∧ 0 ≤ p3.toInt) ∨ (r.toInt = 0 ∧ ¬ ((0 ≤ p1.toInt ∧ p1.toInt ≤ 999) ∧ (-1 ≤ p2.toInt ∧ p2.toInt ≤ 99999999) ∧ 0 ≤ p3.toInt)))) := by
  unfold fm_isRange
  have z1_ := IM_s I
  try have t2_ : (0 : Int32).toInt = (0 : Int) := (by decide : (0 : Int32).toInt = 0)
  try have t3_ : (999 : Int32).toInt = (999 : Int) := (by decide : (999 : Int32).toInt = 999)
  refine okk_in (fun b4_ => ?_) (fun b4_ => ?_)
  · refine okk_f (by decide) ?_
    try have t5_ : (-1 : Int32).toInt = (-1 : Int) := (by decide : (-1 : Int32).toInt = -1)
    try have t6_ : (99999999 : Int32).toInt = (99999999 : Int) := (by decide : (99999999 : Int32).toInt = 99999999)
    refine okk_in (fun b7_ => ?_) (fun b7_ => ?_)
    · refine okk_f (by decide) ?_
      refine okk_ne (fun c8_ c8_I => ?_) (fun c8_ c8_I => ?_)
      · have t9_ : ((u.1 1) - (1 : Int32)).toInt = ((u.1 1).toInt - (1 : Int)) := (oi_sub (a := (u.1 1)) (b := (1 : Int32)) rfl (by decide : (1 : Int32).toInt = 1) (by omega) (by omega))
        refine okk_ck (vp_I (by omega) (by omega)) ?_
        refine okk_lt (fun c10_ c10_I => ?_) (fun c10_ c10_I => ?_)
        · exact okk_some ((by show ((0 : Int32).toInt = 1 ∧ (0 ≤ p1.toInt ∧ p1.toInt ≤ 999) ∧ (-1 ≤ p2.toInt ∧ p2.toInt ≤ 99999999) ∧ 0 ≤ p3.toInt) ∨ ((0 : Int32).toInt = 0 ∧ ¬ ((0 ≤ p1.toInt ∧ p1.toInt ≤ 999) ∧ (-1 ≤ p2.toInt ∧ p2.toInt ≤ 99999999) ∧ 0 ≤ p3.toInt)); omega))
        · try have t11_ : (1 : Int32).toInt = (1 : Int) := (by decide : (1 : Int32).toInt = 1)
          exact okk_some ((by show ((1 : Int32).toInt = 1 ∧ (0 ≤ p1.toInt ∧ p1.toInt ≤ 999) ∧ (-1 ≤ p2.toInt ∧ p2.toInt ≤ 99999999) ∧ 0 ≤ p3.toInt) ∨ ((1 : Int32).toInt = 0 ∧ ¬ ((0 ≤ p1.toInt ∧ p1.toInt ≤ 999) ∧ (-1 ≤ p2.toInt ∧ p2.toInt ≤ 99999999) ∧ 0 ≤ p3.toInt)); omega))
      · refine okk_lt (fun c12_ c12_I => ?_) (fun c12_ c12_I => ?_)
        · exact okk_some ((by show ((0 : Int32).toInt = 1 ∧ (0 ≤ p1.toInt ∧ p1.toInt ≤ 999) ∧ (-1 ≤ p2.toInt ∧ p2.toInt ≤ 99999999) ∧ 0 ≤ p3.toInt) ∨ ((0 : Int32).toInt = 0 ∧ ¬ ((0 ≤ p1.toInt ∧ p1.toInt ≤ 999) ∧ (-1 ≤ p2.toInt ∧ p2.toInt ≤ 99999999) ∧ 0 ≤ p3.toInt)); omega))
        · try have t13_ : (1 : Int32).toInt = (1 : Int) := (by decide : (1 : Int32).toInt = 1)
          exact okk_some ((by show ((1 : Int32).toInt = 1 ∧ (0 ≤ p1.toInt ∧ p1.toInt ≤ 999) ∧ (-1 ≤ p2.toInt ∧ p2.toInt ≤ 99999999) ∧ 0 ≤ p3.toInt) ∨ ((1 : Int32).toInt = 0 ∧ ¬ ((0 ≤ p1.toInt ∧ p1.toInt ≤ 999) ∧ (-1 ≤ p2.toInt ∧ p2.toInt ≤ 99999999) ∧ 0 ≤ p3.toInt)); omega))
    · refine okk_t (by decide) ?_
      exact okk_some ((by show ((0 : Int32).toInt = 1 ∧ (0 ≤ p1.toInt ∧ p1.toInt ≤ 999) ∧ (-1 ≤ p2.toInt ∧ p2.toInt ≤ 99999999) ∧ 0 ≤ p3.toInt) ∨ ((0 : Int32).toInt = 0 ∧ ¬ ((0 ≤ p1.toInt ∧ p1.toInt ≤ 999) ∧ (-1 ≤ p2.toInt ∧ p2.toInt ≤ 99999999) ∧ 0 ≤ p3.toInt)); omega))
  · refine okk_t (by decide) ?_
    exact okk_some ((by show ((0 : Int32).toInt = 1 ∧ (0 ≤ p1.toInt ∧ p1.toInt ≤ 999) ∧ (-1 ≤ p2.toInt ∧ p2.toInt ≤ 99999999) ∧ 0 ≤ p3.toInt) ∨ ((0 : Int32).toInt = 0 ∧ ¬ ((0 ≤ p1.toInt ∧ p1.toInt ≤ 999) ∧ (-1 ≤ p2.toInt ∧ p2.toInt ≤ 99999999) ∧ 0 ≤ p3.toInt)); omega))
set_option maxHeartbeats 4000000 in
theorem okz_fm_isKnown {p0 : Int32} {p1 : Int32} : okk (fm_isKnown p0 p1) (fun r => ((r.toInt = 1 ∧ (0 ≤ p0.toInt ∧ p0.toInt ≤ 7) ∧ -1 ≤ p1.toInt ∧ p1.toInt ≤ 7) ∨ (r.toInt = 0 ∧ ¬ ((0 ≤ p0.toInt ∧ p0.toInt ≤ 7) ∧ -1 ≤ p1.toInt ∧ p1.toInt ≤ 7)))) := by
  unfold fm_isKnown
  refine okk_isKind (fun b1_ => ?_) (fun b1_ => ?_)
  · refine okk_f (by decide) ?_
    try have t2_ : (-1 : Int32).toInt = (-1 : Int) := (by decide : (-1 : Int32).toInt = -1)
    try have t3_ : (7 : Int32).toInt = (7 : Int) := (by decide : (7 : Int32).toInt = 7)
    refine okk_in (fun b4_ => ?_) (fun b4_ => ?_)
    · refine okk_f (by decide) ?_
      try have t5_ : (1 : Int32).toInt = (1 : Int) := (by decide : (1 : Int32).toInt = 1)
      exact okk_some ((by show ((1 : Int32).toInt = 1 ∧ (0 ≤ p0.toInt ∧ p0.toInt ≤ 7) ∧ -1 ≤ p1.toInt ∧ p1.toInt ≤ 7) ∨ ((1 : Int32).toInt = 0 ∧ ¬ ((0 ≤ p0.toInt ∧ p0.toInt ≤ 7) ∧ -1 ≤ p1.toInt ∧ p1.toInt ≤ 7)); omega))
    · refine okk_t (by decide) ?_
      try have t6_ : (0 : Int32).toInt = (0 : Int) := (by decide : (0 : Int32).toInt = 0)
      exact okk_some ((by show ((0 : Int32).toInt = 1 ∧ (0 ≤ p0.toInt ∧ p0.toInt ≤ 7) ∧ -1 ≤ p1.toInt ∧ p1.toInt ≤ 7) ∨ ((0 : Int32).toInt = 0 ∧ ¬ ((0 ≤ p0.toInt ∧ p0.toInt ≤ 7) ∧ -1 ≤ p1.toInt ∧ p1.toInt ≤ 7)); omega))
  · refine okk_t (by decide) ?_
    try have t7_ : (0 : Int32).toInt = (0 : Int) := (by decide : (0 : Int32).toInt = 0)
    exact okk_some ((by show ((0 : Int32).toInt = 1 ∧ (0 ≤ p0.toInt ∧ p0.toInt ≤ 7) ∧ -1 ≤ p1.toInt ∧ p1.toInt ≤ 7) ∨ ((0 : Int32).toInt = 0 ∧ ¬ ((0 ≤ p0.toInt ∧ p0.toInt ≤ 7) ∧ -1 ≤ p1.toInt ∧ p1.toInt ≤ 7)); omega))
set_option maxHeartbeats 4000000 in
theorem okz_fm_mark {g : Nat → Int32} {u : g_S} (I : IM g u) {p1 : Int32} {p2 : Int32} (h0 : (u.1 1).toInt = 0) (h1 : (u.1 2).toInt = 0) : okk (fm_mark u p1 p2) (fun r => ((r.1 0).toInt = 1)) := by
  unfold fm_mark
  have z1_ := IM_s I
  refine okk_isCall (fun b2_ => ?_) (fun b2_ => ?_)
  · have t3_ : ((u.1 1) - (1 : Int32)).toInt = ((u.1 1).toInt - (1 : Int)) := (oi_sub (a := (u.1 1)) (b := (1 : Int32)) rfl (by decide : (1 : Int32).toInt = 1) (by omega) (by omega))
    refine okk_t (by decide) ?_
    unfold fm_mark_14
    try have t4_ : (0 : Int32).toInt = (0 : Int) := (by decide : (0 : Int32).toInt = 0)
    try have t5_ : (7 : Int32).toInt = (7 : Int) := (by decide : (7 : Int32).toInt = 7)
    refine okk_in (fun b6_ => ?_) (fun b6_ => ?_)
    · refine okk_t (by decide) ?_
      unfold fm_mark_29
      obtain ⟨u7_, eu7_⟩ : ∃ y, y = g_sI u 0 (0 : Int32) := ⟨_, rfl⟩
      refine okk_bs (v := ((0 : Int32), u7_)) (by rw [eu7_]; exact fm_thr_0 _) ?_
      dsimp only
      have Iu7_ : IM g u7_ := by rw [eu7_]; exact IM_ix I _ (by decide)
      have h08_ : (u7_.1 0).toInt = 0 := by rw [eu7_, rdI, if_pos rfl]; decide
      have z9_ : (u7_.1 1).toInt = (u.1 1).toInt := by rw [eu7_]; rfl
      have z10_ : (u7_.1 2).toInt = (u.1 2).toInt := by rw [eu7_]; rfl
      refine okk_t (by decide) ?_
      refine okk_ck (vp_I (by omega) (by omega)) ?_
      refine okk_gl (fun u411_ eu411_ => ?_)
      have Iu411_ : IM g u411_ := by rw [eu411_]; exact IM_wx Iu7_ 14 _ _ rfl rfl (by decide)
      have z12_ : (u411_.1 0).toInt = (u7_.1 0).toInt := by rw [eu411_]; rfl
      have z13_ : (u411_.1 1).toInt = (u7_.1 1).toInt := by rw [eu411_]; rfl
      have z14_ : (u411_.1 2).toInt = (u7_.1 2).toInt := by rw [eu411_]; rfl
      exact okk_some ((by show (u411_.1 0).toInt = 1; omega))
    · refine okk_f (by decide) ?_
      unfold fm_mark_29
      obtain ⟨u15_, eu15_⟩ : ∃ y, y = g_sI u 0 (2 : Int32) := ⟨_, rfl⟩
      refine okk_bs (v := ((1 : Int32), u15_)) (by rw [eu15_]; exact fm_thr_2 _ _) ?_
      dsimp only
      have Iu15_ : IM g u15_ := by rw [eu15_]; exact IM_ix I _ (by decide)
      have h016_ : (u15_.1 0).toInt = 2 := by rw [eu15_, rdI, if_pos rfl]; decide
      have z17_ : (u15_.1 1).toInt = (u.1 1).toInt := by rw [eu15_]; rfl
      have z18_ : (u15_.1 2).toInt = (u.1 2).toInt := by rw [eu15_]; rfl
      refine okk_f (by decide) ?_
      exact okk_some ((by show (u15_.1 0).toInt = 1; omega))
  · have t19_ : ((u.1 1) - (1 : Int32)).toInt = ((u.1 1).toInt - (1 : Int)) := (oi_sub (a := (u.1 1)) (b := (1 : Int32)) rfl (by decide : (1 : Int32).toInt = 1) (by omega) (by omega))
    refine okk_f (by decide) ?_
    unfold fm_mark_14
    try have t20_ : (0 : Int32).toInt = (0 : Int) := (by decide : (0 : Int32).toInt = 0)
    try have t21_ : (7 : Int32).toInt = (7 : Int) := (by decide : (7 : Int32).toInt = 7)
    refine okk_in (fun b22_ => ?_) (fun b22_ => ?_)
    · refine okk_t (by decide) ?_
      unfold fm_mark_29
      obtain ⟨u23_, eu23_⟩ : ∃ y, y = g_sI u 0 (1 : Int32) := ⟨_, rfl⟩
      refine okk_bs (v := ((1 : Int32), u23_)) (by rw [eu23_]; exact fm_thr_1 _ _ _) ?_
      dsimp only
      have Iu23_ : IM g u23_ := by rw [eu23_]; exact IM_ix I _ (by decide)
      have h024_ : (u23_.1 0).toInt = 1 := by rw [eu23_, rdI, if_pos rfl]; decide
      have z25_ : (u23_.1 1).toInt = (u.1 1).toInt := by rw [eu23_]; rfl
      have z26_ : (u23_.1 2).toInt = (u.1 2).toInt := by rw [eu23_]; rfl
      refine okk_f (by decide) ?_
      exact okk_some ((by show (u23_.1 0).toInt = 1; omega))
    · refine okk_f (by decide) ?_
      unfold fm_mark_29
      obtain ⟨u27_, eu27_⟩ : ∃ y, y = g_sI u 0 (1 : Int32) := ⟨_, rfl⟩
      refine okk_bs (v := ((1 : Int32), u27_)) (by rw [eu27_]; exact fm_thr_1 _ _ _) ?_
      dsimp only
      have Iu27_ : IM g u27_ := by rw [eu27_]; exact IM_ix I _ (by decide)
      have h028_ : (u27_.1 0).toInt = 1 := by rw [eu27_, rdI, if_pos rfl]; decide
      have z29_ : (u27_.1 1).toInt = (u.1 1).toInt := by rw [eu27_]; rfl
      have z30_ : (u27_.1 2).toInt = (u.1 2).toInt := by rw [eu27_]; rfl
      refine okk_f (by decide) ?_
      exact okk_some ((by show (u27_.1 0).toInt = 1; omega))
set_option maxHeartbeats 4000000 in
theorem okz_fm_split {g : Nat → Int32} {u : g_S} (I : IM g u) {p1 : Int32} (h0 : (u.1 1).toInt = 0) (h1 : (u.1 2).toInt = 0) : okk (fm_split u p1) (fun r => ((r.2.1 0).toInt = 1)) := by
  unfold fm_split
  have z1_ := IM_s I
  refine okk_isCall (fun b2_ => ?_) (fun b2_ => ?_)
  · have t3_ : ((u.1 1) - (1 : Int32)).toInt = ((u.1 1).toInt - (1 : Int)) := (oi_sub (a := (u.1 1)) (b := (1 : Int32)) rfl (by decide : (1 : Int32).toInt = 1) (by omega) (by omega))
    refine okk_f (by decide) ?_
    refine okk_ck (vp_I (by omega) (by omega)) ?_
    have r5_ := IM_r13 I p1.toNatClampNeg
    try have t6_ : (0 : Int32).toInt = (0 : Int) := (by decide : (0 : Int32).toInt = 0)
    refine okk_lt (fun c4_ c4_I => ?_) (fun c4_ c4_I => ?_)
    · unfold fm_split_32
      refine okk_t (by decide) ?_
      refine okk_f (by decide) ?_
      unfold fm_split_52
      try have t8_ : (60 : Int32).toInt = (60 : Int) := (by decide : (60 : Int32).toInt = 60)
      refine okk_ne (fun c7_ c7_I => ?_) (fun c7_ c7_I => ?_)
      · unfold fm_split_66
        obtain ⟨u9_, eu9_⟩ : ∃ y, y = g_sI u 0 (2 : Int32) := ⟨_, rfl⟩
        refine okk_bs (v := ((1 : Int32), u9_)) (by rw [eu9_]; exact fm_thr_2 _ _) ?_
        dsimp only
        have Iu9_ : IM g u9_ := by rw [eu9_]; exact IM_ix I _ (by decide)
        have h010_ : (u9_.1 0).toInt = 2 := by rw [eu9_, rdI, if_pos rfl]; decide
        have z11_ : (u9_.1 1).toInt = (u.1 1).toInt := by rw [eu9_]; rfl
        have z12_ : (u9_.1 2).toInt = (u.1 2).toInt := by rw [eu9_]; rfl
        refine okk_f (by decide) ?_
        exact okk_some ((by show (u9_.1 0).toInt = 1; omega))
      · unfold fm_split_66
        obtain ⟨u13_, eu13_⟩ : ∃ y, y = g_sI u 0 (2 : Int32) := ⟨_, rfl⟩
        refine okk_bs (v := ((1 : Int32), u13_)) (by rw [eu13_]; exact fm_thr_2 _ _) ?_
        dsimp only
        have Iu13_ : IM g u13_ := by rw [eu13_]; exact IM_ix I _ (by decide)
        have h014_ : (u13_.1 0).toInt = 2 := by rw [eu13_, rdI, if_pos rfl]; decide
        have z15_ : (u13_.1 1).toInt = (u.1 1).toInt := by rw [eu13_]; rfl
        have z16_ : (u13_.1 2).toInt = (u.1 2).toInt := by rw [eu13_]; rfl
        refine okk_f (by decide) ?_
        exact okk_some ((by show (u13_.1 0).toInt = 1; omega))
    · refine okk_bi (okk_fm_isOpen I (by omega) (by omega)) (fun v17_ hv17_ => ?_)
      have p18_ := hv17_
      refine okk_eq (fun c19_ c19_I => ?_) (fun c19_ c19_I => ?_)
      · unfold fm_split_32
        refine okk_t (by decide) ?_
        refine okk_f (by decide) ?_
        unfold fm_split_52
        try have t21_ : (60 : Int32).toInt = (60 : Int) := (by decide : (60 : Int32).toInt = 60)
        refine okk_ne (fun c20_ c20_I => ?_) (fun c20_ c20_I => ?_)
        · unfold fm_split_66
          obtain ⟨u22_, eu22_⟩ : ∃ y, y = g_sI u 0 (2 : Int32) := ⟨_, rfl⟩
          refine okk_bs (v := ((1 : Int32), u22_)) (by rw [eu22_]; exact fm_thr_2 _ _) ?_
          dsimp only
          have Iu22_ : IM g u22_ := by rw [eu22_]; exact IM_ix I _ (by decide)
          have h023_ : (u22_.1 0).toInt = 2 := by rw [eu22_, rdI, if_pos rfl]; decide
          have z24_ : (u22_.1 1).toInt = (u.1 1).toInt := by rw [eu22_]; rfl
          have z25_ : (u22_.1 2).toInt = (u.1 2).toInt := by rw [eu22_]; rfl
          refine okk_f (by decide) ?_
          exact okk_some ((by show (u22_.1 0).toInt = 1; omega))
        · unfold fm_split_66
          obtain ⟨u26_, eu26_⟩ : ∃ y, y = g_sI u 0 (2 : Int32) := ⟨_, rfl⟩
          refine okk_bs (v := ((1 : Int32), u26_)) (by rw [eu26_]; exact fm_thr_2 _ _) ?_
          dsimp only
          have Iu26_ : IM g u26_ := by rw [eu26_]; exact IM_ix I _ (by decide)
          have h027_ : (u26_.1 0).toInt = 2 := by rw [eu26_, rdI, if_pos rfl]; decide
          have z28_ : (u26_.1 1).toInt = (u.1 1).toInt := by rw [eu26_]; rfl
          have z29_ : (u26_.1 2).toInt = (u.1 2).toInt := by rw [eu26_]; rfl
          refine okk_f (by decide) ?_
          exact okk_some ((by show (u26_.1 0).toInt = 1; omega))
      · unfold fm_split_32
        refine okk_t (by decide) ?_
        refine okk_t (by decide) ?_
        unfold fm_split_52
        try have t31_ : (60 : Int32).toInt = (60 : Int) := (by decide : (60 : Int32).toInt = 60)
        refine okk_ne (fun c30_ c30_I => ?_) (fun c30_ c30_I => ?_)
        · exfalso; omega
        · unfold fm_split_66
          obtain ⟨u32_, eu32_⟩ : ∃ y, y = g_sI u 0 (3 : Int32) := ⟨_, rfl⟩
          refine okk_bs (v := ((1 : Int32), u32_)) (by rw [eu32_]; exact fm_thr_3 _) ?_
          dsimp only
          have Iu32_ : IM g u32_ := by rw [eu32_]; exact IM_ix I _ (by decide)
          have h033_ : (u32_.1 0).toInt = 3 := by rw [eu32_, rdI, if_pos rfl]; decide
          have z34_ : (u32_.1 1).toInt = (u.1 1).toInt := by rw [eu32_]; rfl
          have z35_ : (u32_.1 2).toInt = (u.1 2).toInt := by rw [eu32_]; rfl
          refine okk_f (by decide) ?_
          exact okk_some ((by show (u32_.1 0).toInt = 1; omega))
  · have t36_ : ((u.1 1) - (1 : Int32)).toInt = ((u.1 1).toInt - (1 : Int)) := (oi_sub (a := (u.1 1)) (b := (1 : Int32)) rfl (by decide : (1 : Int32).toInt = 1) (by omega) (by omega))
    refine okk_t (by decide) ?_
    unfold fm_split_32
    refine okk_f (by decide) ?_
    refine okk_f (by decide) ?_
    unfold fm_split_52
    try have t38_ : (60 : Int32).toInt = (60 : Int) := (by decide : (60 : Int32).toInt = 60)
    refine okk_ne (fun c37_ c37_I => ?_) (fun c37_ c37_I => ?_)
    · unfold fm_split_66
      obtain ⟨u39_, eu39_⟩ : ∃ y, y = g_sI u 0 (1 : Int32) := ⟨_, rfl⟩
      refine okk_bs (v := ((1 : Int32), u39_)) (by rw [eu39_]; exact fm_thr_1 _ _ _) ?_
      dsimp only
      have Iu39_ : IM g u39_ := by rw [eu39_]; exact IM_ix I _ (by decide)
      have h040_ : (u39_.1 0).toInt = 1 := by rw [eu39_, rdI, if_pos rfl]; decide
      have z41_ : (u39_.1 1).toInt = (u.1 1).toInt := by rw [eu39_]; rfl
      have z42_ : (u39_.1 2).toInt = (u.1 2).toInt := by rw [eu39_]; rfl
      refine okk_f (by decide) ?_
      try have t43_ : (0 : Int32).toInt = (0 : Int) := (by decide : (0 : Int32).toInt = 0)
      exact okk_some ((by show (u39_.1 0).toInt = 1; omega))
    · unfold fm_split_66
      obtain ⟨u44_, eu44_⟩ : ∃ y, y = g_sI u 0 (1 : Int32) := ⟨_, rfl⟩
      refine okk_bs (v := ((1 : Int32), u44_)) (by rw [eu44_]; exact fm_thr_1 _ _ _) ?_
      dsimp only
      have Iu44_ : IM g u44_ := by rw [eu44_]; exact IM_ix I _ (by decide)
      have h045_ : (u44_.1 0).toInt = 1 := by rw [eu44_, rdI, if_pos rfl]; decide
      have z46_ : (u44_.1 1).toInt = (u.1 1).toInt := by rw [eu44_]; rfl
      have z47_ : (u44_.1 2).toInt = (u.1 2).toInt := by rw [eu44_]; rfl
      refine okk_f (by decide) ?_
      try have t48_ : (0 : Int32).toInt = (0 : Int) := (by decide : (0 : Int32).toInt = 0)
      exact okk_some ((by show (u44_.1 0).toInt = 1; omega))
