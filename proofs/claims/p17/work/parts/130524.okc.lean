set_option maxHeartbeats 4000000 in
theorem okk_fcJ_watch {g : Nat → Int32} {u : g_S} (I : IC g u) {p1 : Int32} {p2 : Int32} {p3 : Int32} {p4 : Int32} : okk (fcJ_watch u p1 p2 p3 p4) (fun r => IC g r.2 ∧ (r.1 = 0 ∨ r.1 = 1 ∨ r.1 = 2 ∨ r.1 = 3)) := by
  unfold fcJ_watch
  have z1_ := IC_s I
  refine okk_isBelow (fun b2_ => ?_) (fun b2_ => ?_)
  · refine okk_f (by decide) ?_
    try have t3_ : (8 : Int32).toInt = (8 : Int) := (by decide : (8 : Int32).toInt = 8)
    refine okk_isBelow (fun b4_ => ?_) (fun b4_ => ?_)
    · refine okk_f (by decide) ?_
      unfold fcJ_watch_28
      refine okk_bs (v := (0 : Nat)) (by decide) ?_
      refine okk_t (by decide) ?_
      refine okk_ck (vp_I (by omega) (by omega)) ?_
      have r5_ := IC_r5 I p2.toNatClampNeg
      refine okk_isBelow (fun b6_ => ?_) (fun b6_ => ?_)
      · refine okk_f (by decide) ?_
        refine okk_ck (vp_I (by omega) (by omega)) ?_
        refine okk_isBelow (fun b7_ => ?_) (fun b7_ => ?_)
        · refine okk_f (by decide) ?_
          refine okk_eq (fun c8_ c8_I => ?_) (fun c8_ c8_I => ?_)
          · unfold fcJ_watch_75
            refine okk_bs (v := (2 : Nat)) (by decide) ?_
            refine okk_f (by decide) ?_
            exact okk_some (⟨I, (by show 2 = 0 ∨ 2 = 1 ∨ 2 = 2 ∨ 2 = 3; omega)⟩)
          · unfold fcJ_watch_75
            refine okk_bs (v := (0 : Nat)) (by decide) ?_
            refine okk_t (by decide) ?_
            refine okk_ck (vp_I (by omega) (by omega)) ?_
            try have t10_ : (0 : Int32).toInt = (0 : Int) := (by decide : (0 : Int32).toInt = 0)
            refine okk_ne (fun c9_ c9_I => ?_) (fun c9_ c9_I => ?_)
            · unfold fcJ_watch_95
              refine okk_bs (v := (3 : Nat)) (by decide) ?_
              refine okk_f (by decide) ?_
              exact okk_some (⟨I, (by show 3 = 0 ∨ 3 = 1 ∨ 3 = 2 ∨ 3 = 3; omega)⟩)
            · unfold fcJ_watch_95
              refine okk_bs (v := (0 : Nat)) (by decide) ?_
              refine okk_t (by decide) ?_
              refine okk_ck (vp_I (by omega) (by omega)) ?_
              refine okk_gl (fun u611_ eu611_ => ?_)
              have Iu611_ : IC g u611_ := by rw [eu611_]; exact IC_v20 I _ _ (by omega) (by omega)
              have z12_ : (u611_.1 0).toInt = (u.1 0).toInt := by rw [eu611_]; rfl
              have z13_ : (u611_.1 1).toInt = (u.1 1).toInt := by rw [eu611_]; rfl
              refine okk_ck (vp_I (by omega) (by omega)) ?_
              have t15_ : (if p4 < p3 then p4 else p3).toInt = p4.toInt ∨ (if p4 < p3 then p4 else p3).toInt = p3.toInt := oi_ite
              refine okk_gl (fun u714_ eu714_ => ?_)
              have Iu714_ : IC g u714_ := by rw [eu714_]; exact IC_v21 Iu611_ _ _ (by omega) (by omega)
              have z16_ : (u714_.1 0).toInt = (u611_.1 0).toInt := by rw [eu714_]; rfl
              have z17_ : (u714_.1 1).toInt = (u611_.1 1).toInt := by rw [eu714_]; rfl
              refine okk_ck (vp_I (by omega) (by omega)) ?_
              have t19_ : (if p3 < p4 then p4 else p3).toInt = p4.toInt ∨ (if p3 < p4 then p4 else p3).toInt = p3.toInt := oi_ite
              refine okk_gl (fun u818_ eu818_ => ?_)
              have Iu818_ : IC g u818_ := by rw [eu818_]; exact IC_v22 Iu714_ _ _ (by omega) (by omega)
              have z20_ : (u818_.1 0).toInt = (u714_.1 0).toInt := by rw [eu818_]; rfl
              have z21_ : (u818_.1 1).toInt = (u714_.1 1).toInt := by rw [eu818_]; rfl
              exact okk_some (⟨Iu818_, (by show 0 = 0 ∨ 0 = 1 ∨ 0 = 2 ∨ 0 = 3; omega)⟩)
        · refine okk_t (by decide) ?_
          unfold fcJ_watch_75
          refine okk_bs (v := (2 : Nat)) (by decide) ?_
          refine okk_f (by decide) ?_
          exact okk_some (⟨I, (by show 2 = 0 ∨ 2 = 1 ∨ 2 = 2 ∨ 2 = 3; omega)⟩)
      · refine okk_t (by decide) ?_
        unfold fcJ_watch_75
        refine okk_bs (v := (2 : Nat)) (by decide) ?_
        refine okk_f (by decide) ?_
        exact okk_some (⟨I, (by show 2 = 0 ∨ 2 = 1 ∨ 2 = 2 ∨ 2 = 3; omega)⟩)
    · refine okk_t (by decide) ?_
      unfold fcJ_watch_28
      refine okk_bs (v := (1 : Nat)) (by decide) ?_
      refine okk_f (by decide) ?_
      exact okk_some (⟨I, (by show 1 = 0 ∨ 1 = 1 ∨ 1 = 2 ∨ 1 = 3; omega)⟩)
  · refine okk_t (by decide) ?_
    unfold fcJ_watch_28
    refine okk_bs (v := (1 : Nat)) (by decide) ?_
    refine okk_f (by decide) ?_
    exact okk_some (⟨I, (by show 1 = 0 ∨ 1 = 1 ∨ 1 = 2 ∨ 1 = 3; omega)⟩)
set_option maxHeartbeats 4000000 in
theorem okk_fcJ_state {g : Nat → Int32} {u : g_S} (I : IC g u) {p1 : Int32} {p2 : Int32} : okk (fcJ_state u p1 p2) (fun r => IC g r.2 ∧ (r.1 = 0 ∨ r.1 = 1 ∨ r.1 = 2 ∨ r.1 = 3)) := by
  unfold fcJ_state
  have z1_ := IC_s I
  refine okk_isBelow (fun b2_ => ?_) (fun b2_ => ?_)
  · refine okk_bs (v := (0 : Nat)) (by decide) ?_
    refine okk_t (by decide) ?_
    try have t4_ : (0 : Int32).toInt = (0 : Int) := (by decide : (0 : Int32).toInt = 0)
    refine okk_lt (fun c3_ c3_I => ?_) (fun c3_ c3_I => ?_)
    · unfold fcJ_state_28
      refine okk_bs (v := (2 : Nat)) (by decide) ?_
      refine okk_f (by decide) ?_
      exact okk_some (⟨I, (by show 2 = 0 ∨ 2 = 1 ∨ 2 = 2 ∨ 2 = 3; omega)⟩)
    · try have t6_ : (2 : Int32).toInt = (2 : Int) := (by decide : (2 : Int32).toInt = 2)
      refine okk_lt (fun c5_ c5_I => ?_) (fun c5_ c5_I => ?_)
      · unfold fcJ_state_28
        refine okk_bs (v := (2 : Nat)) (by decide) ?_
        refine okk_f (by decide) ?_
        exact okk_some (⟨I, (by show 2 = 0 ∨ 2 = 1 ∨ 2 = 2 ∨ 2 = 3; omega)⟩)
      · unfold fcJ_state_28
        refine okk_bs (v := (0 : Nat)) (by decide) ?_
        refine okk_t (by decide) ?_
        refine okk_ck (vp_I (by omega) (by omega)) ?_
        refine okk_eq (fun c7_ c7_I => ?_) (fun c7_ c7_I => ?_)
        · unfold fcJ_state_62
          refine okk_bs (v := (3 : Nat)) (by decide) ?_
          refine okk_f (by decide) ?_
          exact okk_some (⟨I, (by show 3 = 0 ∨ 3 = 1 ∨ 3 = 2 ∨ 3 = 3; omega)⟩)
        · refine okk_ck (vp_I (by omega) (by omega)) ?_
          try have t9_ : (3 : Int32).toInt = (3 : Int) := (by decide : (3 : Int32).toInt = 3)
          refine okk_eq (fun c8_ c8_I => ?_) (fun c8_ c8_I => ?_)
          · unfold fcJ_state_62
            refine okk_bs (v := (3 : Nat)) (by decide) ?_
            refine okk_f (by decide) ?_
            exact okk_some (⟨I, (by show 3 = 0 ∨ 3 = 1 ∨ 3 = 2 ∨ 3 = 3; omega)⟩)
          · unfold fcJ_state_62
            refine okk_bs (v := (0 : Nat)) (by decide) ?_
            refine okk_t (by decide) ?_
            refine okk_ck (vp_I (by omega) (by omega)) ?_
            refine okk_gl (fun u510_ eu510_ => ?_)
            have Iu510_ : IC g u510_ := by rw [eu510_]; exact IC_w17 I _ _ (IC_f I _ (Or.inl c8_))
            have z11_ : (u510_.1 0).toInt = (u.1 0).toInt := by rw [eu510_]; rfl
            have z12_ : (u510_.1 1).toInt = (u.1 1).toInt := by rw [eu510_]; rfl
            exact okk_some (⟨Iu510_, (by show 0 = 0 ∨ 0 = 1 ∨ 0 = 2 ∨ 0 = 3; omega)⟩)
  · refine okk_bs (v := (1 : Nat)) (by decide) ?_
    refine okk_f (by decide) ?_
    exact okk_some (⟨I, (by show 1 = 0 ∨ 1 = 1 ∨ 1 = 2 ∨ 1 = 3; omega)⟩)
set_option maxHeartbeats 4000000 in
theorem okk_fcJ_share {g : Nat → Int32} {u : g_S} (I : IC g u) {p1 : Int32} {p2 : Int32} : okk (fcJ_share u p1 p2) (fun r => (r.1 = 0 ∨ r.1 = 1 ∨ r.1 = 5)) := by
  unfold fcJ_share
  have z1_ := IC_s I
  refine okk_bi (okk_fcJ_needTwoCalls I) (fun v2_ hv2_ => ?_)
  have p3_ := hv2_
  refine okk_if (fun c4_ => ?_) (fun c4_ => ?_)
  · have t5_ : (if p1 < p2 then p2 else p1).toInt = p2.toInt ∨ (if p1 < p2 then p2 else p1).toInt = p1.toInt := oi_ite
    refine okk_ck (vp_I (by omega) (by omega)) ?_
    have r7_ := IC_r8 I (if p1 < p2 then p2 else p1).toNatClampNeg
    refine okk_gl (fun w26_ ew26_ => ?_)
    have t8_ : w26_.toInt = (u.2 8 (if p1 < p2 then p2 else p1).toNatClampNeg).toInt := by rw [ew26_]
    refine okk_ck (vp_I (by omega) (by omega)) ?_
    refine okk_ck (vp_I (by omega) (by omega)) ?_
    refine okk_bi (okk_fcU_weigh I (by omega) (by omega)) (fun v9_ hv9_ => ?_)
    have p10_ := hv9_
    try have t12_ : (0 : Int32).toInt = (0 : Int) := (by decide : (0 : Int32).toInt = 0)
    refine okk_ne (fun c11_ c11_I => ?_) (fun c11_ c11_I => ?_)
    · refine okk_ck (vp_I (by omega) (by omega)) ?_
      refine okk_ck (vp_I (by omega) (by omega)) ?_
      refine okk_bi (okk_fcU_weigh I (by omega) (by omega)) (fun v13_ hv13_ => ?_)
      have p14_ := hv13_
      refine okk_eq (fun c15_ c15_I => ?_) (fun c15_ c15_I => ?_)
      · exfalso; omega
      · exact okk_some ((by show 0 = 0 ∨ 0 = 1 ∨ 0 = 5; omega))
    · exact okk_some ((by show 5 = 0 ∨ 5 = 1 ∨ 5 = 5; omega))
  · try have t16_ : (0 : Int32).toInt = (0 : Int) := (by decide : (0 : Int32).toInt = 0)
    exact okk_some ((by show v2_ = 0 ∨ v2_ = 1 ∨ v2_ = 5; omega))
set_option maxHeartbeats 4000000 in
theorem okk_fcJ_agree {g : Nat → Int32} {u : g_S} (I : IC g u) {p1 : Int32} {p2 : Int32} : okk (fcJ_agree u p1 p2) (fun r => (r.1 = 0 ∨ r.1 = 1)) := by
  unfold fcJ_agree
  have z1_ := IC_s I
  refine okk_bi (okk_fcJ_needTwoCalls I) (fun v2_ hv2_ => ?_)
  have p3_ := hv2_
  refine okk_if (fun c4_ => ?_) (fun c4_ => ?_)
  · have t5_ : (if p2 < p1 then p2 else p1).toInt = p2.toInt ∨ (if p2 < p1 then p2 else p1).toInt = p1.toInt := oi_ite
    have t6_ : (if p1 < p2 then p2 else p1).toInt = p2.toInt ∨ (if p1 < p2 then p2 else p1).toInt = p1.toInt := oi_ite
    refine okk_bi (okk_fcJ_agreement I (by omega) (by omega) (by omega) (by omega)) (fun v7_ hv7_ => ?_)
    have p8_ := hv7_
    exact okk_some ((by show 0 = 0 ∨ 0 = 1; omega))
  · try have t9_ : (0 : Int32).toInt = (0 : Int) := (by decide : (0 : Int32).toInt = 0)
    exact okk_some ((by show v2_ = 0 ∨ v2_ = 1; omega))
set_option maxHeartbeats 4000000 in
theorem okk_fcJ_callAt {g : Nat → Int32} {u : g_S} (I : IC g u) {p1 : Int32} {p2 : Int32} : okk (fcJ_callAt u p1 p2) (fun r => (r.1 = 0 ∨ r.1 = 1)) := by
  unfold fcJ_callAt
  have z1_ := IC_s I
  refine okk_isBelow (fun b2_ => ?_) (fun b2_ => ?_)
  · refine okk_f (by decide) ?_
    try have t3_ : (5 : Int32).toInt = (5 : Int) := (by decide : (5 : Int32).toInt = 5)
    refine okk_isBelow (fun b4_ => ?_) (fun b4_ => ?_)
    · refine okk_f (by decide) ?_
      unfold fcJ_callAt_27
      refine okk_bs (v := (0 : Nat)) (by decide) ?_
      refine okk_t (by decide) ?_
      try have t6_ : (0 : Int32).toInt = (0 : Int) := (by decide : (0 : Int32).toInt = 0)
      refine okk_eq (fun c5_ c5_I => ?_) (fun c5_ c5_I => ?_)
      · refine okk_ck (vp_I (by omega) (by omega)) ?_
        have r7_ := IC_r13 I p1.toNatClampNeg
        exact okk_some ((by show 0 = 0 ∨ 0 = 1; omega))
      · try have t9_ : (1 : Int32).toInt = (1 : Int) := (by decide : (1 : Int32).toInt = 1)
        refine okk_eq (fun c8_ c8_I => ?_) (fun c8_ c8_I => ?_)
        · refine okk_ck (vp_I (by omega) (by omega)) ?_
          have r10_ := IC_r14 I p1.toNatClampNeg
          exact okk_some ((by show 0 = 0 ∨ 0 = 1; omega))
        · try have t12_ : (2 : Int32).toInt = (2 : Int) := (by decide : (2 : Int32).toInt = 2)
          refine okk_eq (fun c11_ c11_I => ?_) (fun c11_ c11_I => ?_)
          · refine okk_ck (vp_I (by omega) (by omega)) ?_
            exact okk_some ((by show 0 = 0 ∨ 0 = 1; omega))
          · try have t14_ : (3 : Int32).toInt = (3 : Int) := (by decide : (3 : Int32).toInt = 3)
            refine okk_eq (fun c13_ c13_I => ?_) (fun c13_ c13_I => ?_)
            · refine okk_ck (vp_I (by omega) (by omega)) ?_
              have r15_ := IC_r8 I p1.toNatClampNeg
              exact okk_some ((by show 0 = 0 ∨ 0 = 1; omega))
            · refine okk_ck (vp_I (by omega) (by omega)) ?_
              exact okk_some ((by show 0 = 0 ∨ 0 = 1; omega))
    · refine okk_t (by decide) ?_
      unfold fcJ_callAt_27
      refine okk_bs (v := (1 : Nat)) (by decide) ?_
      refine okk_f (by decide) ?_
      try have t16_ : (0 : Int32).toInt = (0 : Int) := (by decide : (0 : Int32).toInt = 0)
      exact okk_some ((by show 1 = 0 ∨ 1 = 1; omega))
  · refine okk_t (by decide) ?_
    unfold fcJ_callAt_27
    refine okk_bs (v := (1 : Nat)) (by decide) ?_
    refine okk_f (by decide) ?_
    try have t17_ : (0 : Int32).toInt = (0 : Int) := (by decide : (0 : Int32).toInt = 0)
    exact okk_some ((by show 1 = 0 ∨ 1 = 1; omega))
set_option maxHeartbeats 4000000 in
theorem okk_fcJ_eventAt {g : Nat → Int32} {u : g_S} (I : IC g u) {p1 : Int32} {p2 : Int32} : okk (fcJ_eventAt u p1 p2) (fun r => (r.1 = 0 ∨ r.1 = 1)) := by
  unfold fcJ_eventAt
  have z1_ := IC_s I
  refine okk_isBelow (fun b2_ => ?_) (fun b2_ => ?_)
  · refine okk_f (by decide) ?_
    try have t3_ : (7 : Int32).toInt = (7 : Int) := (by decide : (7 : Int32).toInt = 7)
    refine okk_isBelow (fun b4_ => ?_) (fun b4_ => ?_)
    · refine okk_f (by decide) ?_
      unfold fcJ_eventAt_28
      refine okk_bs (v := (0 : Nat)) (by decide) ?_
      refine okk_t (by decide) ?_
      try have t6_ : (0 : Int32).toInt = (0 : Int) := (by decide : (0 : Int32).toInt = 0)
      refine okk_eq (fun c5_ c5_I => ?_) (fun c5_ c5_I => ?_)
      · refine okk_ck (vp_I (by omega) (by omega)) ?_
        exact okk_some ((by show 0 = 0 ∨ 0 = 1; omega))
      · try have t8_ : (1 : Int32).toInt = (1 : Int) := (by decide : (1 : Int32).toInt = 1)
        refine okk_eq (fun c7_ c7_I => ?_) (fun c7_ c7_I => ?_)
        · refine okk_bi (okk_fcA_countIn I) (fun v9_ hv9_ => ?_)
          have p10_ := hv9_
          exact okk_some ((by show 0 = 0 ∨ 0 = 1; omega))
        · try have t12_ : (2 : Int32).toInt = (2 : Int) := (by decide : (2 : Int32).toInt = 2)
          refine okk_eq (fun c11_ c11_I => ?_) (fun c11_ c11_I => ?_)
          · refine okk_ck (vp_I (by omega) (by omega)) ?_
            exact okk_some ((by show 0 = 0 ∨ 0 = 1; omega))
          · try have t14_ : (3 : Int32).toInt = (3 : Int) := (by decide : (3 : Int32).toInt = 3)
            refine okk_eq (fun c13_ c13_I => ?_) (fun c13_ c13_I => ?_)
            · refine okk_bi (okk_fcA_weighEvent I) (fun v15_ hv15_ => ?_)
              have p16_ := hv15_
              exact okk_some ((by show 0 = 0 ∨ 0 = 1; omega))
            · try have t18_ : (4 : Int32).toInt = (4 : Int) := (by decide : (4 : Int32).toInt = 4)
              refine okk_eq (fun c17_ c17_I => ?_) (fun c17_ c17_I => ?_)
              · refine okk_bi (okk_fcA_pointOf I) (fun v19_ hv19_ => ?_)
                have p20_ := hv19_
                exact okk_some ((by show 0 = 0 ∨ 0 = 1; omega))
              · try have t22_ : (5 : Int32).toInt = (5 : Int) := (by decide : (5 : Int32).toInt = 5)
                refine okk_eq (fun c21_ c21_I => ?_) (fun c21_ c21_I => ?_)
                · refine okk_ck (vp_I (by omega) (by omega)) ?_
                  have r23_ := IC_r19 I p1.toNatClampNeg
                  exact okk_some ((by show 0 = 0 ∨ 0 = 1; omega))
                · refine okk_bi (okk_fcA_latestTimeOf I) (fun v24_ hv24_ => ?_)
                  have p25_ := hv24_
                  exact okk_some ((by show 0 = 0 ∨ 0 = 1; omega))
    · refine okk_t (by decide) ?_
      unfold fcJ_eventAt_28
      refine okk_bs (v := (1 : Nat)) (by decide) ?_
      refine okk_f (by decide) ?_
      try have t26_ : (0 : Int32).toInt = (0 : Int) := (by decide : (0 : Int32).toInt = 0)
      exact okk_some ((by show 1 = 0 ∨ 1 = 1; omega))
  · refine okk_t (by decide) ?_
    unfold fcJ_eventAt_28
    refine okk_bs (v := (1 : Nat)) (by decide) ?_
    refine okk_f (by decide) ?_
    try have t27_ : (0 : Int32).toInt = (0 : Int) := (by decide : (0 : Int32).toInt = 0)
    exact okk_some ((by show 1 = 0 ∨ 1 = 1; omega))
set_option maxHeartbeats 4000000 in
theorem okk_fcJ_member {g : Nat → Int32} {u : g_S} (I : IC g u) {p1 : Int32} {p2 : Int32} : okk (fcJ_member u p1 p2) (fun r => (r.1 = 0 ∨ r.1 = 1 ∨ r.1 = 2)) := by
  unfold fcJ_member
  have z1_ := IC_s I
  refine okk_isBelow (fun b2_ => ?_) (fun b2_ => ?_)
  · refine okk_bs (v := (0 : Nat)) (by decide) ?_
    refine okk_t (by decide) ?_
    refine okk_bi (okk_fcA_memberOf I) (fun v3_ hv3_ => ?_)
    have p4_ := hv3_
    try have t6_ : (-1 : Int32).toInt = (-1 : Int) := (by decide : (-1 : Int32).toInt = -1)
    refine okk_eq (fun c5_ c5_I => ?_) (fun c5_ c5_I => ?_)
    · refine okk_bs (v := (2 : Nat)) (by decide) ?_
      refine okk_f (by decide) ?_
      try have t7_ : (0 : Int32).toInt = (0 : Int) := (by decide : (0 : Int32).toInt = 0)
      exact okk_some ((by show 2 = 0 ∨ 2 = 1 ∨ 2 = 2; omega))
    · refine okk_bs (v := (0 : Nat)) (by decide) ?_
      refine okk_t (by decide) ?_
      exact okk_some ((by show 0 = 0 ∨ 0 = 1 ∨ 0 = 2; omega))
  · refine okk_bs (v := (1 : Nat)) (by decide) ?_
    refine okk_f (by decide) ?_
    try have t8_ : (0 : Int32).toInt = (0 : Int) := (by decide : (0 : Int32).toInt = 0)
    exact okk_some ((by show 1 = 0 ∨ 1 = 1 ∨ 1 = 2; omega))
set_option maxHeartbeats 4000000 in
theorem okk_fcJ_count {g : Nat → Int32} {u : g_S} (I : IC g u) {p1 : Int32} : okk (fcJ_count u p1) (fun r => (r.1 = 0 ∨ r.1 = 1)) := by
  unfold fcJ_count
  have z1_ := IC_s I
  try have t2_ : (4 : Int32).toInt = (4 : Int) := (by decide : (4 : Int32).toInt = 4)
  refine okk_isBelow (fun b3_ => ?_) (fun b3_ => ?_)
  · refine okk_bs (v := (0 : Nat)) (by decide) ?_
    refine okk_t (by decide) ?_
    try have t5_ : (0 : Int32).toInt = (0 : Int) := (by decide : (0 : Int32).toInt = 0)
    refine okk_eq (fun c4_ c4_I => ?_) (fun c4_ c4_I => ?_)
    · exact okk_some ((by show 0 = 0 ∨ 0 = 1; omega))
    · try have t7_ : (1 : Int32).toInt = (1 : Int) := (by decide : (1 : Int32).toInt = 1)
      refine okk_eq (fun c6_ c6_I => ?_) (fun c6_ c6_I => ?_)
      · exact okk_some ((by show 0 = 0 ∨ 0 = 1; omega))
      · try have t9_ : (2 : Int32).toInt = (2 : Int) := (by decide : (2 : Int32).toInt = 2)
        refine okk_eq (fun c8_ c8_I => ?_) (fun c8_ c8_I => ?_)
        · refine okk_bi (okk_fcE_countOpen I) (fun v10_ hv10_ => ?_)
          have p11_ := hv10_
          exact okk_some ((by show 0 = 0 ∨ 0 = 1; omega))
        · refine okk_bi (okk_fcA_countHoaxes I) (fun v12_ hv12_ => ?_)
          have p13_ := hv12_
          exact okk_some ((by show 0 = 0 ∨ 0 = 1; omega))
  · refine okk_bs (v := (1 : Nat)) (by decide) ?_
    refine okk_f (by decide) ?_
    try have t14_ : (0 : Int32).toInt = (0 : Int) := (by decide : (0 : Int32).toInt = 0)
    exact okk_some ((by show 1 = 0 ∨ 1 = 1; omega))
