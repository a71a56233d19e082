set_option maxHeartbeats 4000000 in
theorem okk_fcJ_firstOnStretch_2 {g : Nat → Int32} {u : g_S} (I : IC g u) : ∀ (n : Nat) (x1 : Int32) (x2 : Int32), 0 ≤ x2.toInt → x2.toInt ≤ 60 → 0 ≤ x1.toInt → x1.toInt ≤ 120 → 61 ≤ (n : Int) + x2.toInt → okk (fcJ_firstOnStretch_2 u n x1 x2) (fun r => (-1 ≤ r.toInt ∧ r.toInt ≤ 120)) := by
  intro n
  induction n with
  | zero =>
    intro x1 x2 h0 h1 h2 h3 hf
    exfalso; omega
  | succ n ih =>
    intro x1 x2 h0 h1 h2 h3 hf
    rw [fcJ_firstOnStretch_2_s]
    have z1_ := IC_s I
    refine okk_le (fun c2_ c2_I => ?_) (fun c2_ c2_I => ?_)
    · try have t3_ : (-1 : Int32).toInt = (-1 : Int) := (by decide : (-1 : Int32).toInt = -1)
      exact okk_some ((by show -1 ≤ (-1 : Int32).toInt ∧ (-1 : Int32).toInt ≤ 120; omega))
    · refine okk_ck (vp_I (by omega) (by omega)) ?_
      refine okk_bi (okk_fcE_isWatchedFor I (by omega) (by omega)) (fun v4_ hv4_ => ?_)
      have p5_ := hv4_
      try have t7_ : (0 : Int32).toInt = (0 : Int) := (by decide : (0 : Int32).toInt = 0)
      refine okk_eq (fun c6_ c6_I => ?_) (fun c6_ c6_I => ?_)
      · have t8_ : (x2 + (1 : Int32)).toInt = (x2.toInt + (1 : Int)) := (oi_add (a := x2) (b := (1 : Int32)) rfl (by decide : (1 : Int32).toInt = 1) (by omega) (by omega))
        exact ih x1 (x2 + (1 : Int32)) (by omega) (by omega) (by omega) (by omega) (by omega)
      · have r9_ := IC_r20 I x2.toNatClampNeg
        refine okk_bi (okk_fcJ_isOnStretch I (by omega) (by omega) (by omega) (by omega) (by omega)) (fun v10_ hv10_ => ?_)
        have p11_ := hv10_
        refine okk_eq (fun c12_ c12_I => ?_) (fun c12_ c12_I => ?_)
        · have t13_ : (x2 + (1 : Int32)).toInt = (x2.toInt + (1 : Int)) := (oi_add (a := x2) (b := (1 : Int32)) rfl (by decide : (1 : Int32).toInt = 1) (by omega) (by omega))
          exact ih x1 (x2 + (1 : Int32)) (by omega) (by omega) (by omega) (by omega) (by omega)
        · refine okk_ck (vp_I (by omega) (by omega)) ?_
          have r14_ := IC_r19 I x2.toNatClampNeg
          exact okk_some ((by show -1 ≤ (u.2 19 x2.toNatClampNeg).toInt ∧ (u.2 19 x2.toNatClampNeg).toInt ≤ 120; omega))
set_option maxHeartbeats 4000000 in
theorem okk_fcJ_firstOnStretch {g : Nat → Int32} {u : g_S} (I : IC g u) {p1 : Int32} (h0 : 0 ≤ p1.toInt) (h1 : p1.toInt ≤ 120) : okk (fcJ_firstOnStretch u p1) (fun r => (-1 ≤ r.toInt ∧ r.toInt ≤ 120)) := by
  unfold fcJ_firstOnStretch
  have z1_ := IC_s I
  have t2_ : (0 : Int32).toInt = (0 : Int) := (by decide : (0 : Int32).toInt = 0)
  exact okk_fcJ_firstOnStretch_2 I 200 p1 (0 : Int32) (by omega) (by omega) (by omega) (by omega) (by omega)
set_option maxHeartbeats 4000000 in
theorem okk_fcJ_isCandidate {g : Nat → Int32} {u : g_S} (I : IC g u) {p1 : Int32} {p2 : Int32} (h0 : 0 ≤ p1.toInt) (h1 : p1.toInt ≤ 120) (h2 : 0 ≤ p2.toInt) (h3 : p2.toInt ≤ 120) : okk (fcJ_isCandidate u p1 p2) (fun r => True) := by
  unfold fcJ_isCandidate
  have z1_ := IC_s I
  refine okk_ck (vp_I (by omega) (by omega)) ?_
  refine okk_ck (vp_I (by omega) (by omega)) ?_
  have r3_ := IC_r8 I p1.toNatClampNeg
  have r4_ := IC_r8 I p2.toNatClampNeg
  refine okk_ne (fun c2_ c2_I => ?_) (fun c2_ c2_I => ?_)
  · exact okk_some (trivial)
  · refine okk_bi (okk_fcJ_canBeReason I (by omega) (by omega)) (fun v5_ hv5_ => ?_)
    have p6_ := hv5_
    try have t8_ : (0 : Int32).toInt = (0 : Int) := (by decide : (0 : Int32).toInt = 0)
    refine okk_eq (fun c7_ c7_I => ?_) (fun c7_ c7_I => ?_)
    · exact okk_some (trivial)
    · exact okk_some (trivial)
set_option maxHeartbeats 4000000 in
theorem okk_fcJ_agreement {g : Nat → Int32} {u : g_S} (I : IC g u) {p1 : Int32} {p2 : Int32} (h0 : 0 ≤ p1.toInt) (h1 : p1.toInt ≤ 120) (h2 : 0 ≤ p2.toInt) (h3 : p2.toInt ≤ 120) : okk (fcJ_agreement u p1 p2) (fun r => True) := by
  unfold fcJ_agreement
  have z1_ := IC_s I
  refine okk_bi (okk_fcJ_isWithinSpan I (by omega) (by omega) (by omega) (by omega)) (fun v2_ hv2_ => ?_)
  have p3_ := hv2_
  try have t5_ : (0 : Int32).toInt = (0 : Int) := (by decide : (0 : Int32).toInt = 0)
  refine okk_ne (fun c4_ c4_I => ?_) (fun c4_ c4_I => ?_)
  · refine okk_ck (vp_I (by omega) (by omega)) ?_
    have r7_ := IC_r8 I p2.toNatClampNeg
    refine okk_gl (fun w26_ ew26_ => ?_)
    have t8_ : w26_.toInt = (u.2 8 p2.toNatClampNeg).toInt := by rw [ew26_]
    refine okk_ck (vp_I (by omega) (by omega)) ?_
    refine okk_ck (vp_I (by omega) (by omega)) ?_
    refine okk_bi (okk_fcU_weigh I (by omega) (by omega)) (fun v9_ hv9_ => ?_)
    have p10_ := hv9_
    refine okk_ck (vp_I (by omega) (by omega)) ?_
    refine okk_ck (vp_I (by omega) (by omega)) ?_
    refine okk_bi (okk_fcU_weigh I (by omega) (by omega)) (fun v11_ hv11_ => ?_)
    have p12_ := hv11_
    refine okk_le (fun c13_ c13_I => ?_) (fun c13_ c13_I => ?_)
    · unfold fcJ_agreement_89
      refine okk_t (by decide) ?_
      unfold fcJ_agreement_116
      refine okk_ck (vp_I (by omega) (by omega)) ?_
      try have t15_ : (-1 : Int32).toInt = (-1 : Int) := (by decide : (-1 : Int32).toInt = -1)
      refine okk_eq (fun c14_ c14_I => ?_) (fun c14_ c14_I => ?_)
      · unfold fcJ_agreement_144
        refine okk_t (by decide) ?_
        exact okk_some (trivial)
      · refine okk_ck (vp_I (by omega) (by omega)) ?_
        refine okk_ne (fun c16_ c16_I => ?_) (fun c16_ c16_I => ?_)
        · refine okk_ck (vp_I (by omega) (by omega)) ?_
          refine okk_ck (vp_I (by omega) (by omega)) ?_
          refine okk_bi (okk_fcJ_squareBetween ) (fun v17_ hv17_ => ?_)
          have p18_ := hv17_
          refine okk_ck (vp_I (by omega) (by omega)) ?_
          refine okk_ck (vp_I (by omega) (by omega)) ?_
          refine okk_gl (fun w619_ ew619_ => ?_)
          refine okk_t (by decide) ?_
          refine okk_lt (fun c20_ c20_I => ?_) (fun c20_ c20_I => ?_)
          · unfold fcJ_agreement_244
            refine okk_t (by decide) ?_
            exact okk_some (trivial)
          · unfold fcJ_agreement_244
            refine okk_f (by decide) ?_
            exact okk_some (trivial)
        · unfold fcJ_agreement_144
          refine okk_t (by decide) ?_
          exact okk_some (trivial)
    · unfold fcJ_agreement_89
      refine okk_f (by decide) ?_
      refine okk_bi (okk_fcU_meetsNeed I (by omega) (by omega)) (fun v21_ hv21_ => ?_)
      have p22_ := hv21_
      refine okk_eq (fun c23_ c23_I => ?_) (fun c23_ c23_I => ?_)
      · unfold fcJ_agreement_116
        refine okk_ck (vp_I (by omega) (by omega)) ?_
        try have t25_ : (-1 : Int32).toInt = (-1 : Int) := (by decide : (-1 : Int32).toInt = -1)
        refine okk_eq (fun c24_ c24_I => ?_) (fun c24_ c24_I => ?_)
        · unfold fcJ_agreement_144
          refine okk_t (by decide) ?_
          exact okk_some (trivial)
        · refine okk_ck (vp_I (by omega) (by omega)) ?_
          refine okk_ne (fun c26_ c26_I => ?_) (fun c26_ c26_I => ?_)
          · refine okk_ck (vp_I (by omega) (by omega)) ?_
            refine okk_ck (vp_I (by omega) (by omega)) ?_
            refine okk_bi (okk_fcJ_squareBetween ) (fun v27_ hv27_ => ?_)
            have p28_ := hv27_
            refine okk_ck (vp_I (by omega) (by omega)) ?_
            refine okk_ck (vp_I (by omega) (by omega)) ?_
            refine okk_gl (fun w629_ ew629_ => ?_)
            refine okk_f (by decide) ?_
            refine okk_t (by decide) ?_
            unfold fcJ_agreement_244
            refine okk_t (by decide) ?_
            exact okk_some (trivial)
          · unfold fcJ_agreement_144
            refine okk_t (by decide) ?_
            exact okk_some (trivial)
      · unfold fcJ_agreement_116
        refine okk_ck (vp_I (by omega) (by omega)) ?_
        try have t31_ : (-1 : Int32).toInt = (-1 : Int) := (by decide : (-1 : Int32).toInt = -1)
        refine okk_eq (fun c30_ c30_I => ?_) (fun c30_ c30_I => ?_)
        · unfold fcJ_agreement_144
          refine okk_f (by decide) ?_
          exact okk_some (trivial)
        · refine okk_ck (vp_I (by omega) (by omega)) ?_
          refine okk_ne (fun c32_ c32_I => ?_) (fun c32_ c32_I => ?_)
          · refine okk_ck (vp_I (by omega) (by omega)) ?_
            refine okk_ck (vp_I (by omega) (by omega)) ?_
            refine okk_bi (okk_fcJ_squareBetween ) (fun v33_ hv33_ => ?_)
            have p34_ := hv33_
            refine okk_ck (vp_I (by omega) (by omega)) ?_
            refine okk_ck (vp_I (by omega) (by omega)) ?_
            refine okk_gl (fun w635_ ew635_ => ?_)
            refine okk_f (by decide) ?_
            refine okk_f (by decide) ?_
            refine okk_lt (fun c36_ c36_I => ?_) (fun c36_ c36_I => ?_)
            · unfold fcJ_agreement_244
              refine okk_t (by decide) ?_
              exact okk_some (trivial)
            · unfold fcJ_agreement_244
              refine okk_f (by decide) ?_
              exact okk_some (trivial)
          · unfold fcJ_agreement_144
            refine okk_f (by decide) ?_
            exact okk_some (trivial)
  · exact okk_some (trivial)
set_option maxHeartbeats 4000000 in
theorem okk_fcJ_nearestByPlace_7 {g : Nat → Int32} {u : g_S} (I : IC g u) : ∀ (n : Nat) (x1 : Int32) (x2 : Int32) (x3 : Int64) (x5 : Int32), 0 ≤ x5.toInt → x5.toInt ≤ 120 → 0 ≤ x1.toInt → x1.toInt ≤ 120 → -1 ≤ x2.toInt → x2.toInt ≤ 119 → 121 ≤ (n : Int) + x5.toInt → okk (fcJ_nearestByPlace_7 u n x1 x2 x3 x5) (fun r => (-1 ≤ r.toInt ∧ r.toInt ≤ 119)) := by
  intro n
  induction n with
  | zero =>
    intro x1 x2 x3 x5 h0 h1 h2 h3 h4 h5 hf
    exfalso; omega
  | succ n ih =>
    intro x1 x2 x3 x5 h0 h1 h2 h3 h4 h5 hf
    rw [fcJ_nearestByPlace_7_s]
    have z1_ := IC_s I
    refine okk_le (fun c2_ c2_I => ?_) (fun c2_ c2_I => ?_)
    · exact okk_some ((by show -1 ≤ x2.toInt ∧ x2.toInt ≤ 119; omega))
    · refine okk_bi (okk_fcJ_isCandidate I (by omega) (by omega) (by omega) (by omega)) (fun v3_ hv3_ => ?_)
      have p4_ := hv3_
      try have t6_ : (0 : Int32).toInt = (0 : Int) := (by decide : (0 : Int32).toInt = 0)
      refine okk_eq (fun c5_ c5_I => ?_) (fun c5_ c5_I => ?_)
      · have t7_ : (x5 + (1 : Int32)).toInt = (x5.toInt + (1 : Int)) := (oi_add (a := x5) (b := (1 : Int32)) rfl (by decide : (1 : Int32).toInt = 1) (by omega) (by omega))
        exact ih x1 x2 x3 (x5 + (1 : Int32)) (by omega) (by omega) (by omega) (by omega) (by omega) (by omega) (by omega)
      · refine okk_bi (okk_fcJ_agreement I (by omega) (by omega) (by omega) (by omega)) (fun v8_ hv8_ => ?_)
        have p9_ := hv8_
        try have t11_ : (1 : Int32).toInt = (1 : Int) := (by decide : (1 : Int32).toInt = 1)
        refine okk_ne (fun c10_ c10_I => ?_) (fun c10_ c10_I => ?_)
        · have t12_ : (x5 + (1 : Int32)).toInt = (x5.toInt + (1 : Int)) := (oi_add (a := x5) (b := (1 : Int32)) rfl (by decide : (1 : Int32).toInt = 1) (by omega) (by omega))
          exact ih x1 x2 x3 (x5 + (1 : Int32)) (by omega) (by omega) (by omega) (by omega) (by omega) (by omega) (by omega)
        · refine okk_ck (vp_I (by omega) (by omega)) ?_
          refine okk_ck (vp_I (by omega) (by omega)) ?_
          refine okk_bi (okk_fcJ_squareBetween ) (fun v13_ hv13_ => ?_)
          have p14_ := hv13_
          try have t16_ : (-1 : Int32).toInt = (-1 : Int) := (by decide : (-1 : Int32).toInt = -1)
          refine okk_eq (fun c15_ c15_I => ?_) (fun c15_ c15_I => ?_)
          · have t17_ : (x5 + (1 : Int32)).toInt = (x5.toInt + (1 : Int)) := (oi_add (a := x5) (b := (1 : Int32)) rfl (by decide : (1 : Int32).toInt = 1) (by omega) (by omega))
            exact ih x1 x5 v13_ (x5 + (1 : Int32)) (by omega) (by omega) (by omega) (by omega) (by omega) (by omega) (by omega)
          · refine okk_le (fun c18_ c18_I => ?_) (fun c18_ c18_I => ?_)
            · have t19_ : (x5 + (1 : Int32)).toInt = (x5.toInt + (1 : Int)) := (oi_add (a := x5) (b := (1 : Int32)) rfl (by decide : (1 : Int32).toInt = 1) (by omega) (by omega))
              exact ih x1 x2 x3 (x5 + (1 : Int32)) (by omega) (by omega) (by omega) (by omega) (by omega) (by omega) (by omega)
            · have t20_ : (x5 + (1 : Int32)).toInt = (x5.toInt + (1 : Int)) := (oi_add (a := x5) (b := (1 : Int32)) rfl (by decide : (1 : Int32).toInt = 1) (by omega) (by omega))
              exact ih x1 x5 v13_ (x5 + (1 : Int32)) (by omega) (by omega) (by omega) (by omega) (by omega) (by omega) (by omega)
set_option maxHeartbeats 4000000 in
theorem okk_fcJ_nearestByPlace {g : Nat → Int32} {u : g_S} (I : IC g u) {p1 : Int32} (h0 : 0 ≤ p1.toInt) (h1 : p1.toInt ≤ 120) : okk (fcJ_nearestByPlace u p1) (fun r => (-1 ≤ r.toInt ∧ r.toInt ≤ 119)) := by
  unfold fcJ_nearestByPlace
  have z1_ := IC_s I
  have t2_ : (-1 : Int32).toInt = (-1 : Int) := (by decide : (-1 : Int32).toInt = -1)
  have t3_ : (0 : Int32).toInt = (0 : Int) := (by decide : (0 : Int32).toInt = 0)
  exact okk_fcJ_nearestByPlace_7 I 200 p1 (-1 : Int32) (0 : Int64) (0 : Int32) (by omega) (by omega) (by omega) (by omega) (by omega) (by omega) (by omega)
set_option maxHeartbeats 4000000 in
theorem okk_fcJ_greatestShare_21 {g : Nat → Int32} {u : g_S} (I : IC g u) : ∀ (n : Nat) (x1 : Int32) (x2 : Int32) (x3 : Int32) (x4 : Int32) (x5 : Int32) (x6 : Int32), 0 ≤ x6.toInt → x6.toInt ≤ 120 → 0 ≤ x1.toInt → x1.toInt ≤ 120 → 0 ≤ x2.toInt → x2.toInt ≤ 7 → -1 ≤ x3.toInt → x3.toInt ≤ 119 → 121 ≤ (n : Int) + x6.toInt → okk (fcJ_greatestShare_21 u n x1 x2 x3 x4 x5 x6) (fun r => (-1 ≤ r.toInt ∧ r.toInt ≤ 119)) := by
  intro n
  induction n with
  | zero =>
    intro x1 x2 x3 x4 x5 x6 h0 h1 h2 h3 h4 h5 h6 h7 hf
    exfalso; omega
  | succ n ih =>
    intro x1 x2 x3 x4 x5 x6 h0 h1 h2 h3 h4 h5 h6 h7 hf
    rw [fcJ_greatestShare_21_s]
    have z1_ := IC_s I
    refine okk_le (fun c2_ c2_I => ?_) (fun c2_ c2_I => ?_)
    · exact okk_some ((by show -1 ≤ x3.toInt ∧ x3.toInt ≤ 119; omega))
    · refine okk_bi (okk_fcJ_isCandidate I (by omega) (by omega) (by omega) (by omega)) (fun v3_ hv3_ => ?_)
      have p4_ := hv3_
      try have t6_ : (0 : Int32).toInt = (0 : Int) := (by decide : (0 : Int32).toInt = 0)
      refine okk_eq (fun c5_ c5_I => ?_) (fun c5_ c5_I => ?_)
      · have t7_ : (x6 + (1 : Int32)).toInt = (x6.toInt + (1 : Int)) := (oi_add (a := x6) (b := (1 : Int32)) rfl (by decide : (1 : Int32).toInt = 1) (by omega) (by omega))
        exact ih x1 x2 x3 x4 x5 (x6 + (1 : Int32)) (by omega) (by omega) (by omega) (by omega) (by omega) (by omega) (by omega) (by omega) (by omega)
      · refine okk_bi (okk_fcJ_agreement I (by omega) (by omega) (by omega) (by omega)) (fun v8_ hv8_ => ?_)
        have p9_ := hv8_
        try have t11_ : (2 : Int32).toInt = (2 : Int) := (by decide : (2 : Int32).toInt = 2)
        refine okk_ne (fun c10_ c10_I => ?_) (fun c10_ c10_I => ?_)
        · have t12_ : (x6 + (1 : Int32)).toInt = (x6.toInt + (1 : Int)) := (oi_add (a := x6) (b := (1 : Int32)) rfl (by decide : (1 : Int32).toInt = 1) (by omega) (by omega))
          exact ih x1 x2 x3 x4 x5 (x6 + (1 : Int32)) (by omega) (by omega) (by omega) (by omega) (by omega) (by omega) (by omega) (by omega) (by omega)
        · refine okk_ck (vp_I (by omega) (by omega)) ?_
          refine okk_ck (vp_I (by omega) (by omega)) ?_
          refine okk_bi (okk_fcU_weigh I (by omega) (by omega)) (fun v13_ hv13_ => ?_)
          have p14_ := hv13_
          refine okk_ck (vp_I (by omega) (by omega)) ?_
          refine okk_ck (vp_I (by omega) (by omega)) ?_
          refine okk_bi (okk_fcU_weigh I (by omega) (by omega)) (fun v15_ hv15_ => ?_)
          have p16_ := hv15_
          try have t18_ : (-1 : Int32).toInt = (-1 : Int) := (by decide : (-1 : Int32).toInt = -1)
          refine okk_eq (fun c17_ c17_I => ?_) (fun c17_ c17_I => ?_)
          · have t19_ : (x6 + (1 : Int32)).toInt = (x6.toInt + (1 : Int)) := (oi_add (a := x6) (b := (1 : Int32)) rfl (by decide : (1 : Int32).toInt = 1) (by omega) (by omega))
            exact ih x1 x2 x6 v13_ v15_ (x6 + (1 : Int32)) (by omega) (by omega) (by omega) (by omega) (by omega) (by omega) (by omega) (by omega) (by omega)
          · try have t21_ : (v13_ * x5).toInt = (v13_.toInt * x5.toInt) := (oi_mul (a := v13_) (b := x5) rfl rfl (by omega) (by omega))
            try have t22_ : (x4 * v15_).toInt = (x4.toInt * v15_.toInt) := (oi_mul (a := x4) (b := v15_) rfl rfl (by omega) (by omega))
            refine okk_le (fun c20_ c20_I => ?_) (fun c20_ c20_I => ?_)
            · have t23_ : (x6 + (1 : Int32)).toInt = (x6.toInt + (1 : Int)) := (oi_add (a := x6) (b := (1 : Int32)) rfl (by decide : (1 : Int32).toInt = 1) (by omega) (by omega))
              exact ih x1 x2 x3 x4 x5 (x6 + (1 : Int32)) (by omega) (by omega) (by omega) (by omega) (by omega) (by omega) (by omega) (by omega) (by omega)
            · have t24_ : (x6 + (1 : Int32)).toInt = (x6.toInt + (1 : Int)) := (oi_add (a := x6) (b := (1 : Int32)) rfl (by decide : (1 : Int32).toInt = 1) (by omega) (by omega))
              exact ih x1 x2 x6 v13_ v15_ (x6 + (1 : Int32)) (by omega) (by omega) (by omega) (by omega) (by omega) (by omega) (by omega) (by omega) (by omega)
set_option maxHeartbeats 4000000 in
theorem okk_fcJ_greatestShare {g : Nat → Int32} {u : g_S} (I : IC g u) {p1 : Int32} (h0 : 0 ≤ p1.toInt) (h1 : p1.toInt ≤ 120) : okk (fcJ_greatestShare u p1) (fun r => (-1 ≤ r.toInt ∧ r.toInt ≤ 119)) := by
  unfold fcJ_greatestShare
  have z1_ := IC_s I
  refine okk_ck (vp_I (by omega) (by omega)) ?_
  have r3_ := IC_r8 I p1.toNatClampNeg
  refine okk_gl (fun w12_ ew12_ => ?_)
  have t4_ : w12_.toInt = (u.2 8 p1.toNatClampNeg).toInt := by rw [ew12_]
  have t5_ : (-1 : Int32).toInt = (-1 : Int) := (by decide : (-1 : Int32).toInt = -1)
  have t6_ : (0 : Int32).toInt = (0 : Int) := (by decide : (0 : Int32).toInt = 0)
  exact okk_fcJ_greatestShare_21 I 200 p1 w12_ (-1 : Int32) (0 : Int32) (1 : Int32) (0 : Int32) (by omega) (by omega) (by omega) (by omega) (by omega) (by omega) (by omega) (by omega) (by omega)
set_option maxHeartbeats 4000000 in
theorem okk_fcJ_seekReason {g : Nat → Int32} {u : g_S} (I : IC g u) {p1 : Int32} (h0 : 0 ≤ p1.toInt) (h1 : p1.toInt ≤ 120) : okk (fcJ_seekReason u p1) (fun r => IC g r ∧ ((r.1 0).toInt = (u.1 0).toInt) ∧ ((r.1 1).toInt = (u.1 1).toInt)) := by
  unfold fcJ_seekReason
  have z1_ := IC_s I
  refine okk_bi (okk_fcJ_latestOfLine I (by omega) (by omega)) (fun v2_ hv2_ => ?_)
  have p3_ := hv2_
  refine okk_bi (okk_fcJ_takeReason I (by omega) (by omega) (by omega) (by omega)) (fun v4_ hv4_ => ?_)
  obtain ⟨p5_, p6_, p7_⟩ := hv4_
  try have t9_ : (0 : Int32).toInt = (0 : Int) := (by decide : (0 : Int32).toInt = 0)
  refine okk_eq (fun c8_ c8_I => ?_) (fun c8_ c8_I => ?_)
  · have z10_ := IC_s p5_
    refine okk_bi (okk_fcJ_firstOnStretch p5_ (by omega) (by omega)) (fun v11_ hv11_ => ?_)
    have p12_ := hv11_
    refine okk_bi (okk_fcJ_takeReason p5_ (by omega) (by omega) (by omega) (by omega)) (fun v13_ hv13_ => ?_)
    obtain ⟨p14_, p15_, p16_⟩ := hv13_
    refine okk_eq (fun c17_ c17_I => ?_) (fun c17_ c17_I => ?_)
    · have z18_ := IC_s p14_
      refine okk_bi (okk_fcJ_nearestByPlace p14_ (by omega) (by omega)) (fun v19_ hv19_ => ?_)
      have p20_ := hv19_
      refine okk_bi (okk_fcJ_takeReason p14_ (by omega) (by omega) (by omega) (by omega)) (fun v21_ hv21_ => ?_)
      obtain ⟨p22_, p23_, p24_⟩ := hv21_
      refine okk_eq (fun c25_ c25_I => ?_) (fun c25_ c25_I => ?_)
      · have z26_ := IC_s p22_
        refine okk_bi (okk_fcJ_greatestShare p22_ (by omega) (by omega)) (fun v27_ hv27_ => ?_)
        have p28_ := hv27_
        refine okk_bi (okk_fcJ_takeReason p22_ (by omega) (by omega) (by omega) (by omega)) (fun v29_ hv29_ => ?_)
        obtain ⟨p30_, p31_, p32_⟩ := hv29_
        exact okk_some (⟨p30_, (by show (v29_.2.1 0).toInt = (u.1 0).toInt; omega), (by show (v29_.2.1 1).toInt = (u.1 1).toInt; omega)⟩)
      · exact okk_some (⟨p22_, (by show (v21_.2.1 0).toInt = (u.1 0).toInt; omega), (by show (v21_.2.1 1).toInt = (u.1 1).toInt; omega)⟩)
    · exact okk_some (⟨p14_, (by show (v13_.2.1 0).toInt = (u.1 0).toInt; omega), (by show (v13_.2.1 1).toInt = (u.1 1).toInt; omega)⟩)
  · exact okk_some (⟨p5_, (by show (v4_.2.1 0).toInt = (u.1 0).toInt; omega), (by show (v4_.2.1 1).toInt = (u.1 1).toInt; omega)⟩)
set_option maxHeartbeats 4000000 in
theorem okk_fcJ_needCallData {g : Nat → Int32} {u : g_S} (I : IC g u) {p1 : Int32} {p2 : Int32} {p3 : Int32} {p4 : Int32} {p5 : Int32} : okk (fcJ_needCallData u p1 p2 p3 p4 p5) (fun r => (r = 1 ∨ r = 2 ∨ (r = 0 ∧ 0 ≤ p2.toInt ∧ p2.toInt ≤ 7))) := by
  unfold fcJ_needCallData
  have z1_ := IC_s I
  try have t2_ : (8 : Int32).toInt = (8 : Int) := (by decide : (8 : Int32).toInt = 8)
  refine okk_isBelow (fun b3_ => ?_) (fun b3_ => ?_)
  · refine okk_bs (v := (0 : Nat)) (by decide) ?_
    refine okk_t (by decide) ?_
    try have t5_ : (-1 : Int32).toInt = (-1 : Int) := (by decide : (-1 : Int32).toInt = -1)
    refine okk_eq (fun c4_ c4_I => ?_) (fun c4_ c4_I => ?_)
    · unfold fcJ_needCallData_30
      refine okk_bs (v := (0 : Nat)) (by decide) ?_
      refine okk_t (by decide) ?_
      try have t6_ : (1000 : Int32).toInt = (1000 : Int) := (by decide : (1000 : Int32).toInt = 1000)
      refine okk_isBelow (fun b7_ => ?_) (fun b7_ => ?_)
      · refine okk_bs (v := (0 : Nat)) (by decide) ?_
        refine okk_t (by decide) ?_
        refine okk_eq (fun c8_ c8_I => ?_) (fun c8_ c8_I => ?_)
        · unfold fcJ_needCallData_62
          refine okk_bs (v := (0 : Nat)) (by decide) ?_
          refine okk_t (by decide) ?_
          refine okk_bi (okk_fcA_latestTime I) (fun v9_ hv9_ => ?_)
          have p10_ := hv9_
          refine okk_lt (fun c11_ c11_I => ?_) (fun c11_ c11_I => ?_)
          · refine okk_bs (v := (2 : Nat)) (by decide) ?_
            refine okk_f (by decide) ?_
            exact okk_some ((by show 2 = 1 ∨ 2 = 2 ∨ (2 = 0 ∧ 0 ≤ p2.toInt ∧ p2.toInt ≤ 7); omega))
          · refine okk_bs (v := (0 : Nat)) (by decide) ?_
            refine okk_t (by decide) ?_
            exact okk_some ((by show 0 = 1 ∨ 0 = 2 ∨ (0 = 0 ∧ 0 ≤ p2.toInt ∧ p2.toInt ≤ 7); omega))
        · try have t12_ : (100000000 : Int32).toInt = (100000000 : Int) := (by decide : (100000000 : Int32).toInt = 100000000)
          refine okk_isBelow (fun b13_ => ?_) (fun b13_ => ?_)
          · refine okk_f (by decide) ?_
            unfold fcJ_needCallData_62
            refine okk_bs (v := (0 : Nat)) (by decide) ?_
            refine okk_t (by decide) ?_
            refine okk_bi (okk_fcA_latestTime I) (fun v14_ hv14_ => ?_)
            have p15_ := hv14_
            refine okk_lt (fun c16_ c16_I => ?_) (fun c16_ c16_I => ?_)
            · refine okk_bs (v := (2 : Nat)) (by decide) ?_
              refine okk_f (by decide) ?_
              exact okk_some ((by show 2 = 1 ∨ 2 = 2 ∨ (2 = 0 ∧ 0 ≤ p2.toInt ∧ p2.toInt ≤ 7); omega))
            · refine okk_bs (v := (0 : Nat)) (by decide) ?_
              refine okk_t (by decide) ?_
              exact okk_some ((by show 0 = 1 ∨ 0 = 2 ∨ (0 = 0 ∧ 0 ≤ p2.toInt ∧ p2.toInt ≤ 7); omega))
          · refine okk_t (by decide) ?_
            unfold fcJ_needCallData_62
            refine okk_bs (v := (2 : Nat)) (by decide) ?_
            refine okk_f (by decide) ?_
            exact okk_some ((by show 2 = 1 ∨ 2 = 2 ∨ (2 = 0 ∧ 0 ≤ p2.toInt ∧ p2.toInt ≤ 7); omega))
      · refine okk_bs (v := (2 : Nat)) (by decide) ?_
        refine okk_f (by decide) ?_
        exact okk_some ((by show 2 = 1 ∨ 2 = 2 ∨ (2 = 0 ∧ 0 ≤ p2.toInt ∧ p2.toInt ≤ 7); omega))
    · refine okk_isBelow (fun b17_ => ?_) (fun b17_ => ?_)
      · refine okk_f (by decide) ?_
        unfold fcJ_needCallData_30
        refine okk_bs (v := (0 : Nat)) (by decide) ?_
        refine okk_t (by decide) ?_
        try have t18_ : (1000 : Int32).toInt = (1000 : Int) := (by decide : (1000 : Int32).toInt = 1000)
        refine okk_isBelow (fun b19_ => ?_) (fun b19_ => ?_)
        · refine okk_bs (v := (0 : Nat)) (by decide) ?_
          refine okk_t (by decide) ?_
          refine okk_eq (fun c20_ c20_I => ?_) (fun c20_ c20_I => ?_)
          · unfold fcJ_needCallData_62
            refine okk_bs (v := (0 : Nat)) (by decide) ?_
            refine okk_t (by decide) ?_
            refine okk_bi (okk_fcA_latestTime I) (fun v21_ hv21_ => ?_)
            have p22_ := hv21_
            refine okk_lt (fun c23_ c23_I => ?_) (fun c23_ c23_I => ?_)
            · refine okk_bs (v := (2 : Nat)) (by decide) ?_
              refine okk_f (by decide) ?_
              exact okk_some ((by show 2 = 1 ∨ 2 = 2 ∨ (2 = 0 ∧ 0 ≤ p2.toInt ∧ p2.toInt ≤ 7); omega))
            · refine okk_bs (v := (0 : Nat)) (by decide) ?_
              refine okk_t (by decide) ?_
              exact okk_some ((by show 0 = 1 ∨ 0 = 2 ∨ (0 = 0 ∧ 0 ≤ p2.toInt ∧ p2.toInt ≤ 7); omega))
          · try have t24_ : (100000000 : Int32).toInt = (100000000 : Int) := (by decide : (100000000 : Int32).toInt = 100000000)
            refine okk_isBelow (fun b25_ => ?_) (fun b25_ => ?_)
            · refine okk_f (by decide) ?_
              unfold fcJ_needCallData_62
              refine okk_bs (v := (0 : Nat)) (by decide) ?_
              refine okk_t (by decide) ?_
              refine okk_bi (okk_fcA_latestTime I) (fun v26_ hv26_ => ?_)
              have p27_ := hv26_
              refine okk_lt (fun c28_ c28_I => ?_) (fun c28_ c28_I => ?_)
              · refine okk_bs (v := (2 : Nat)) (by decide) ?_
                refine okk_f (by decide) ?_
                exact okk_some ((by show 2 = 1 ∨ 2 = 2 ∨ (2 = 0 ∧ 0 ≤ p2.toInt ∧ p2.toInt ≤ 7); omega))
              · refine okk_bs (v := (0 : Nat)) (by decide) ?_
                refine okk_t (by decide) ?_
                exact okk_some ((by show 0 = 1 ∨ 0 = 2 ∨ (0 = 0 ∧ 0 ≤ p2.toInt ∧ p2.toInt ≤ 7); omega))
            · refine okk_t (by decide) ?_
              unfold fcJ_needCallData_62
              refine okk_bs (v := (2 : Nat)) (by decide) ?_
              refine okk_f (by decide) ?_
              exact okk_some ((by show 2 = 1 ∨ 2 = 2 ∨ (2 = 0 ∧ 0 ≤ p2.toInt ∧ p2.toInt ≤ 7); omega))
        · refine okk_bs (v := (2 : Nat)) (by decide) ?_
          refine okk_f (by decide) ?_
          exact okk_some ((by show 2 = 1 ∨ 2 = 2 ∨ (2 = 0 ∧ 0 ≤ p2.toInt ∧ p2.toInt ≤ 7); omega))
      · refine okk_t (by decide) ?_
        unfold fcJ_needCallData_30
        refine okk_bs (v := (1 : Nat)) (by decide) ?_
        refine okk_f (by decide) ?_
        exact okk_some ((by show 1 = 1 ∨ 1 = 2 ∨ (1 = 0 ∧ 0 ≤ p2.toInt ∧ p2.toInt ≤ 7); omega))
  · refine okk_bs (v := (1 : Nat)) (by decide) ?_
    refine okk_f (by decide) ?_
    exact okk_some ((by show 1 = 1 ∨ 1 = 2 ∨ (1 = 0 ∧ 0 ≤ p2.toInt ∧ p2.toInt ≤ 7); omega))
