set_option maxHeartbeats 4000000 in
theorem okk_fm_squareOf {p0 : Int32} {p1 : Int32} : okk (fm_squareOf p0 p1) (fun r => True) := by
  unfold fm_squareOf
  refine okk_gl (fun w11_ ew11_ => ?_)
  refine okk_gl (fun w22_ ew22_ => ?_)
  exact okk_some (trivial)
set_option maxHeartbeats 4000000 in
theorem okk_fm_sum_5 {g : Nat → Int32} {u : g_S} (I : IM g u) : ∀ (n : Nat) (x1 : Int32) (x2 : Int32) (x3 : Int32) (x4 : Int32), 0 ≤ x4.toInt → x4.toInt ≤ 32 → 0 ≤ x2.toInt → x2.toInt ≤ 7 → 33 ≤ (n : Int) + x4.toInt → okk (fm_sum_5 u n x1 x2 x3 x4) (fun r => True) := by
  intro n
  induction n with
  | zero =>
    intro x1 x2 x3 x4 h0 h1 h2 h3 hf
    exfalso; omega
  | succ n ih =>
    intro x1 x2 x3 x4 h0 h1 h2 h3 hf
    rw [fm_sum_5_s]
    have z1_ := IM_s I
    try have t3_ : (32 : Int32).toInt = (32 : Int) := (by decide : (32 : Int32).toInt = 32)
    refine okk_le (fun c2_ c2_I => ?_) (fun c2_ c2_I => ?_)
    · exact okk_some (trivial)
    · try have t5_ : (1 : Int32).toInt = (1 : Int) := (by decide : (1 : Int32).toInt = 1)
      refine okk_ne (fun c4_ c4_I => ?_) (fun c4_ c4_I => ?_)
      · try have t7_ : (x3 + (0 : Int32)).toInt = (x3.toInt + (0 : Int)) := (oi_add (a := x3) (b := (0 : Int32)) rfl (by decide : (0 : Int32).toInt = 0) (by omega) (by omega))
        refine okk_gl (fun w16_ ew16_ => ?_)
        have t8_ : w16_.toInt = (x3 + (0 : Int32)).toInt := by rw [ew16_]
        have t9_ : (x4 + (1 : Int32)).toInt = (x4.toInt + (1 : Int)) := (oi_add (a := x4) (b := (1 : Int32)) rfl (by decide : (1 : Int32).toInt = 1) (by omega) (by omega))
        exact ih x1 x2 w16_ (x4 + (1 : Int32)) (by omega) (by omega) (by omega) (by omega) (by omega)
      · have t10_ : (((32 : Int32) * x2) + x4).toInt = (((32 : Int) * x2.toInt) + x4.toInt) := (oi_add (a := ((32 : Int32) * x2)) (b := x4) (oi_mul (a := (32 : Int32)) (b := x2) (by decide : (32 : Int32).toInt = 32) rfl (by omega) (by omega)) rfl (by omega) (by omega))
        refine okk_ck (vp_I (by omega) (by omega)) ?_
        try have t12_ : (x3 + (u.2 4 (((32 : Int32) * x2) + x4).toNatClampNeg)).toInt = (x3.toInt + (u.2 4 (((32 : Int32) * x2) + x4).toNatClampNeg).toInt) := (oi_add (a := x3) (b := (u.2 4 (((32 : Int32) * x2) + x4).toNatClampNeg)) rfl rfl (by omega) (by omega))
        refine okk_gl (fun w211_ ew211_ => ?_)
        have t13_ : w211_.toInt = (x3 + (u.2 4 (((32 : Int32) * x2) + x4).toNatClampNeg)).toInt := by rw [ew211_]
        have t14_ : (x4 + (1 : Int32)).toInt = (x4.toInt + (1 : Int)) := (oi_add (a := x4) (b := (1 : Int32)) rfl (by decide : (1 : Int32).toInt = 1) (by omega) (by omega))
        exact ih x1 x2 w211_ (x4 + (1 : Int32)) (by omega) (by omega) (by omega) (by omega) (by omega)
set_option maxHeartbeats 4000000 in
theorem okk_fm_sum {g : Nat → Int32} {u : g_S} (I : IM g u) {p1 : Int32} {p2 : Int32} (h0 : 0 ≤ p2.toInt) (h1 : p2.toInt ≤ 7) : okk (fm_sum u p1 p2) (fun r => True) := by
  unfold fm_sum
  have z1_ := IM_s I
  have t2_ : (0 : Int32).toInt = (0 : Int) := (by decide : (0 : Int32).toInt = 0)
  exact okk_fm_sum_5 I 200 p1 p2 (0 : Int32) (0 : Int32) (by omega) (by omega) (by omega) (by omega) (by omega)
set_option maxHeartbeats 4000000 in
theorem okk_fm_isEnough {g : Nat → Int32} {u : g_S} (I : IM g u) {p1 : Int32} {p2 : Int32} {p3 : Int32} (h0 : 0 ≤ p3.toInt) (h1 : p3.toInt ≤ 7) : okk (fm_isEnough u p1 p2 p3) (fun r => True) := by
  unfold fm_isEnough
  have z1_ := IM_s I
  refine okk_bi (okk_fm_sum I (by omega) (by omega)) (fun v2_ hv2_ => ?_)
  have p3_ := hv2_
  refine okk_ck (vp_I (by omega) (by omega)) ?_
  refine okk_ck (vp_I (by omega) (by omega)) ?_
  refine okk_bi (okk_fm_sum I (by omega) (by omega)) (fun v4_ hv4_ => ?_)
  have p5_ := hv4_
  try have t7_ : (v2_ * (u.2 3 p3.toNatClampNeg)).toInt = (v2_.toInt * (u.2 3 p3.toNatClampNeg).toInt) := (oi_mul (a := v2_) (b := (u.2 3 p3.toNatClampNeg)) rfl rfl (by omega) (by omega))
  try have t8_ : ((u.2 2 p3.toNatClampNeg) * v4_).toInt = ((u.2 2 p3.toNatClampNeg).toInt * v4_.toInt) := (oi_mul (a := (u.2 2 p3.toNatClampNeg)) (b := v4_) rfl rfl (by omega) (by omega))
  refine okk_lt (fun c6_ c6_I => ?_) (fun c6_ c6_I => ?_)
  · exact okk_some (trivial)
  · exact okk_some (trivial)
set_option maxHeartbeats 4000000 in
theorem okk_fm_meets {g : Nat → Int32} {u : g_S} (I : IM g u) {p1 : Int32} {p2 : Int32} {p3 : Int32} {p4 : Int32} {p5 : Int32} (h0 : 0 ≤ p1.toInt) (h1 : p1.toInt ≤ 119) (h2 : 0 ≤ p2.toInt) (h3 : p2.toInt ≤ 7) : okk (fm_meets u p1 p2 p3 p4 p5) (fun r => True) := by
  unfold fm_meets
  have z1_ := IM_s I
  refine okk_ck (vp_I (by omega) (by omega)) ?_
  refine okk_ck (vp_I (by omega) (by omega)) ?_
  try have t3_ : (0 : Int32).toInt = (0 : Int) := (by decide : (0 : Int32).toInt = 0)
  refine okk_le (fun c2_ c2_I => ?_) (fun c2_ c2_I => ?_)
  · refine okk_ck (vp_I (by omega) (by omega)) ?_
    refine okk_bi (okk_fm_sum I (by omega) (by omega)) (fun v4_ hv4_ => ?_)
    have p5_ := hv4_
    refine okk_le (fun c6_ c6_I => ?_) (fun c6_ c6_I => ?_)
    · unfold fm_meets_46
      refine okk_ck (vp_I (by omega) (by omega)) ?_
      refine okk_lt (fun c7_ c7_I => ?_) (fun c7_ c7_I => ?_)
      · unfold fm_meets_157
        refine okk_t (by decide) ?_
        exact okk_some (trivial)
      · refine okk_lt (fun c8_ c8_I => ?_) (fun c8_ c8_I => ?_)
        · unfold fm_meets_157
          refine okk_t (by decide) ?_
          exact okk_some (trivial)
        · refine okk_ck (vp_I (by omega) (by omega)) ?_
          refine okk_bi (okk_fm_squareOf ) (fun v9_ hv9_ => ?_)
          have p10_ := hv9_
          refine okk_ck (vp_I (by omega) (by omega)) ?_
          refine okk_ck (vp_I (by omega) (by omega)) ?_
          refine okk_gl (fun w411_ ew411_ => ?_)
          refine okk_t (by decide) ?_
          refine okk_lt (fun c12_ c12_I => ?_) (fun c12_ c12_I => ?_)
          · unfold fm_meets_144
            refine okk_t (by decide) ?_
            exact okk_some (trivial)
          · unfold fm_meets_144
            refine okk_f (by decide) ?_
            exact okk_some (trivial)
    · unfold fm_meets_46
      refine okk_ck (vp_I (by omega) (by omega)) ?_
      refine okk_lt (fun c13_ c13_I => ?_) (fun c13_ c13_I => ?_)
      · unfold fm_meets_157
        refine okk_f (by decide) ?_
        refine okk_ck (vp_I (by omega) (by omega)) ?_
        refine okk_bi (okk_fm_isEnough I (by omega) (by omega)) (fun v14_ hv14_ => ?_)
        have p15_ := hv14_
        refine okk_eq (fun c16_ c16_I => ?_) (fun c16_ c16_I => ?_)
        · exact okk_some (trivial)
        · exact okk_some (trivial)
      · refine okk_lt (fun c17_ c17_I => ?_) (fun c17_ c17_I => ?_)
        · unfold fm_meets_157
          refine okk_f (by decide) ?_
          refine okk_ck (vp_I (by omega) (by omega)) ?_
          refine okk_bi (okk_fm_isEnough I (by omega) (by omega)) (fun v18_ hv18_ => ?_)
          have p19_ := hv18_
          refine okk_eq (fun c20_ c20_I => ?_) (fun c20_ c20_I => ?_)
          · exact okk_some (trivial)
          · exact okk_some (trivial)
        · refine okk_ck (vp_I (by omega) (by omega)) ?_
          refine okk_bi (okk_fm_squareOf ) (fun v21_ hv21_ => ?_)
          have p22_ := hv21_
          refine okk_ck (vp_I (by omega) (by omega)) ?_
          refine okk_ck (vp_I (by omega) (by omega)) ?_
          refine okk_gl (fun w423_ ew423_ => ?_)
          refine okk_f (by decide) ?_
          refine okk_lt (fun c24_ c24_I => ?_) (fun c24_ c24_I => ?_)
          · unfold fm_meets_144
            refine okk_t (by decide) ?_
            exact okk_some (trivial)
          · refine okk_ck (vp_I (by omega) (by omega)) ?_
            refine okk_bi (okk_fm_isEnough I (by omega) (by omega)) (fun v25_ hv25_ => ?_)
            have p26_ := hv25_
            refine okk_eq (fun c27_ c27_I => ?_) (fun c27_ c27_I => ?_)
            · unfold fm_meets_144
              refine okk_t (by decide) ?_
              exact okk_some (trivial)
            · unfold fm_meets_144
              refine okk_f (by decide) ?_
              exact okk_some (trivial)
  · exact okk_some (trivial)
set_option maxHeartbeats 4000000 in
theorem okk_fm_isOpen {g : Nat → Int32} {u : g_S} (I : IM g u) {p1 : Int32} (h0 : 0 ≤ p1.toInt) (h1 : p1.toInt ≤ 119) : okk (fm_isOpen u p1) (fun r => True) := by
  unfold fm_isOpen
  have z1_ := IM_s I
  refine okk_ck (vp_I (by omega) (by omega)) ?_
  have r2_ := IM_r12 I p1.toNatClampNeg
  refine okk_ck (vp_I (by omega) (by omega)) ?_
  try have t4_ : (0 : Int32).toInt = (0 : Int) := (by decide : (0 : Int32).toInt = 0)
  refine okk_ne (fun c3_ c3_I => ?_) (fun c3_ c3_I => ?_)
  · exact okk_some (trivial)
  · exact okk_some (trivial)
set_option maxHeartbeats 4000000 in
theorem okk_fm_isHoax {g : Nat → Int32} {u : g_S} (I : IM g u) {p1 : Int32} (h0 : 0 ≤ p1.toInt) (h1 : p1.toInt ≤ 119) : okk (fm_isHoax u p1) (fun r => True) := by
  unfold fm_isHoax
  have z1_ := IM_s I
  refine okk_ck (vp_I (by omega) (by omega)) ?_
  try have t3_ : (0 : Int32).toInt = (0 : Int) := (by decide : (0 : Int32).toInt = 0)
  refine okk_eq (fun c2_ c2_I => ?_) (fun c2_ c2_I => ?_)
  · exact okk_some (trivial)
  · exact okk_some (trivial)
set_option maxHeartbeats 4000000 in
theorem okk_fm_isBeside {p0 : Int32} {p1 : Int32} {p2 : Int32} : okk (fm_isBeside p0 p1 p2) (fun r => True) := by
  unfold fm_isBeside
  refine okk_gl (fun w11_ ew11_ => ?_)
  refine okk_gl (fun w22_ ew22_ => ?_)
  refine okk_gl (fun w33_ ew33_ => ?_)
  refine okk_gl (fun w44_ ew44_ => ?_)
  refine okk_gl (fun w55_ ew55_ => ?_)
  refine okk_gl (fun w66_ ew66_ => ?_)
  try have t8_ : (0 : Int32).toInt = (0 : Int) := (by decide : (0 : Int32).toInt = 0)
  refine okk_lt (fun c7_ c7_I => ?_) (fun c7_ c7_I => ?_)
  · refine okk_lt (fun c9_ c9_I => ?_) (fun c9_ c9_I => ?_)
    · refine okk_gl (fun w710_ ew710_ => ?_)
      refine okk_lt (fun c11_ c11_I => ?_) (fun c11_ c11_I => ?_)
      · exact okk_some (trivial)
      · exact okk_some (trivial)
    · refine okk_bi (okk_fm_squareOf ) (fun v12_ hv12_ => ?_)
      have p13_ := hv12_
      refine okk_lt (fun c14_ c14_I => ?_) (fun c14_ c14_I => ?_)
      · exact okk_some (trivial)
      · exact okk_some (trivial)
  · refine okk_lt (fun c15_ c15_I => ?_) (fun c15_ c15_I => ?_)
    · exact okk_some (trivial)
    · exact okk_some (trivial)
set_option maxHeartbeats 4000000 in
theorem okk_fm_isOn_77 {g : Nat → Int32} {u : g_S} (I : IM g u) : ∀ (n : Nat) (x1 : Int32) (x2 : Int32) (x5 : Int32) (x6 : Int32) (x7 : Int32), 0 ≤ x7.toInt → x7.toInt ≤ 7 → 0 ≤ x1.toInt → x1.toInt ≤ 59 → 0 ≤ (u.2 17 x1.toNatClampNeg).toInt → x5.toInt ≤ 7 → (x6 = 0 ∨ x6 = 1) → 8 ≤ (n : Int) + x7.toInt → okk (fm_isOn_77 u n x1 x2 x5 x6 x7) (fun r => True) := by
  intro n
  induction n with
  | zero =>
    intro x1 x2 x5 x6 x7 h0 h1 h2 h3 h4 h5 h6 hf
    exfalso; omega
  | succ n ih =>
    intro x1 x2 x5 x6 x7 h0 h1 h2 h3 h4 h5 h6 hf
    rw [fm_isOn_77_s]
    have z1_ := IM_s I
    refine okk_le (fun c2_ c2_I => ?_) (fun c2_ c2_I => ?_)
    · refine okk_t h6 ?_
      exact okk_some (trivial)
    · try have t4_ : (0 : Int32).toInt = (0 : Int) := (by decide : (0 : Int32).toInt = 0)
      refine okk_ne (fun c3_ c3_I => ?_) (fun c3_ c3_I => ?_)
      · have t5_ : (1 : Int32).toInt = (1 : Int) := (by decide : (1 : Int32).toInt = 1)
        have t6_ : (x7 + (1 : Int32)).toInt = (x7.toInt + (1 : Int)) := (oi_add (a := x7) (b := (1 : Int32)) rfl (by decide : (1 : Int32).toInt = 1) (by omega) (by omega))
        have r7_ := IM_r17 I x1.toNatClampNeg
        exact ih x1 x2 x5 (1 : Int32) (x7 + (1 : Int32)) (by omega) (by omega) (by omega) (by omega) (by omega) (by omega) (by decide) (by omega)
      · refine okk_ck (vp_I (by omega) (by omega)) ?_
        have r8_ := IM_r17 I x1.toNatClampNeg
        have t9_ : (((8 : Int32) * (u.2 17 x1.toNatClampNeg)) + x7).toInt = (((8 : Int) * (u.2 17 x1.toNatClampNeg).toInt) + x7.toInt) := (oi_add (a := ((8 : Int32) * (u.2 17 x1.toNatClampNeg))) (b := x7) (oi_mul (a := (8 : Int32)) (b := (u.2 17 x1.toNatClampNeg)) (by decide : (8 : Int32).toInt = 8) rfl (by omega) (by omega)) rfl (by omega) (by omega))
        refine okk_ck (vp_I (by omega) (by omega)) ?_
        refine okk_ck (vp_I (by omega) (by omega)) ?_
        have t10_ : ((((8 : Int32) * (u.2 17 x1.toNatClampNeg)) + x7) + (1 : Int32)).toInt = ((((8 : Int) * (u.2 17 x1.toNatClampNeg).toInt) + x7.toInt) + (1 : Int)) := (oi_add (a := (((8 : Int32) * (u.2 17 x1.toNatClampNeg)) + x7)) (b := (1 : Int32)) (oi_add (a := ((8 : Int32) * (u.2 17 x1.toNatClampNeg))) (b := x7) (oi_mul (a := (8 : Int32)) (b := (u.2 17 x1.toNatClampNeg)) (by decide : (8 : Int32).toInt = 8) rfl (by omega) (by omega)) rfl (by omega) (by omega)) (by decide : (1 : Int32).toInt = 1) (by omega) (by omega))
        refine okk_ck (vp_I (by omega) (by omega)) ?_
        refine okk_bi (okk_fm_isBeside ) (fun v11_ hv11_ => ?_)
        have p12_ := hv11_
        refine okk_eq (fun c13_ c13_I => ?_) (fun c13_ c13_I => ?_)
        · have t14_ : (x7 + (1 : Int32)).toInt = (x7.toInt + (1 : Int)) := (oi_add (a := x7) (b := (1 : Int32)) rfl (by decide : (1 : Int32).toInt = 1) (by omega) (by omega))
          exact ih x1 x2 x5 (0 : Int32) (x7 + (1 : Int32)) (by omega) (by omega) (by omega) (by omega) (by omega) (by omega) (by decide) (by omega)
        · have t15_ : (1 : Int32).toInt = (1 : Int) := (by decide : (1 : Int32).toInt = 1)
          have t16_ : (x7 + (1 : Int32)).toInt = (x7.toInt + (1 : Int)) := (oi_add (a := x7) (b := (1 : Int32)) rfl (by decide : (1 : Int32).toInt = 1) (by omega) (by omega))
          exact ih x1 x2 x5 (1 : Int32) (x7 + (1 : Int32)) (by omega) (by omega) (by omega) (by omega) (by omega) (by omega) (by decide) (by omega)
set_option maxHeartbeats 4000000 in
theorem okk_fm_isOn {g : Nat → Int32} {u : g_S} (I : IM g u) {p1 : Int32} {p2 : Int32} {p3 : Int32} (h0 : 0 ≤ p1.toInt) (h1 : p1.toInt ≤ 59) (h2 : 0 ≤ (u.2 17 p1.toNatClampNeg).toInt) : okk (fm_isOn u p1 p2 p3) (fun r => True) := by
  unfold fm_isOn
  have z1_ := IM_s I
  try have t3_ : (0 : Int32).toInt = (0 : Int) := (by decide : (0 : Int32).toInt = 0)
  refine okk_le (fun c2_ c2_I => ?_) (fun c2_ c2_I => ?_)
  · refine okk_ck (vp_I (by omega) (by omega)) ?_
    refine okk_ck (vp_I (by omega) (by omega)) ?_
    have r5_ := IM_r19 I p1.toNatClampNeg
    have r6_ := IM_r18 I p1.toNatClampNeg
    refine okk_le (fun c4_ c4_I => ?_) (fun c4_ c4_I => ?_)
    · refine okk_ck (vp_I (by omega) (by omega)) ?_
      unfold fm_isOn_50
      refine okk_ck (vp_I (by omega) (by omega)) ?_
      refine okk_ck (vp_I (by omega) (by omega)) ?_
      try have t8_ : (((u.2 18 p1.toNatClampNeg) + (u.2 19 p1.toNatClampNeg)) - (u.2 19 p1.toNatClampNeg)).toInt = (((u.2 18 p1.toNatClampNeg).toInt + (u.2 19 p1.toNatClampNeg).toInt) - (u.2 19 p1.toNatClampNeg).toInt) := (oi_sub (a := ((u.2 18 p1.toNatClampNeg) + (u.2 19 p1.toNatClampNeg))) (b := (u.2 19 p1.toNatClampNeg)) (oi_add (a := (u.2 18 p1.toNatClampNeg)) (b := (u.2 19 p1.toNatClampNeg)) rfl rfl (by omega) (by omega)) rfl (by omega) (by omega))
      refine okk_gl (fun w17_ ew17_ => ?_)
      have t9_ : w17_.toInt = (((u.2 18 p1.toNatClampNeg) + (u.2 19 p1.toNatClampNeg)) - (u.2 19 p1.toNatClampNeg)).toInt := by rw [ew17_]
      have r10_ := IM_r17 I p1.toNatClampNeg
      exact okk_fm_isOn_77 I 200 p1 p2 w17_ (0 : Int32) (u.2 19 p1.toNatClampNeg) (by omega) (by omega) (by omega) (by omega) (by omega) (by omega) (by decide) (by omega)
    · refine okk_ck (vp_I (by omega) (by omega)) ?_
      unfold fm_isOn_50
      refine okk_ck (vp_I (by omega) (by omega)) ?_
      refine okk_ck (vp_I (by omega) (by omega)) ?_
      try have t12_ : (((u.2 18 p1.toNatClampNeg) + (u.2 19 p1.toNatClampNeg)) - (u.2 18 p1.toNatClampNeg)).toInt = (((u.2 18 p1.toNatClampNeg).toInt + (u.2 19 p1.toNatClampNeg).toInt) - (u.2 18 p1.toNatClampNeg).toInt) := (oi_sub (a := ((u.2 18 p1.toNatClampNeg) + (u.2 19 p1.toNatClampNeg))) (b := (u.2 18 p1.toNatClampNeg)) (oi_add (a := (u.2 18 p1.toNatClampNeg)) (b := (u.2 19 p1.toNatClampNeg)) rfl rfl (by omega) (by omega)) rfl (by omega) (by omega))
      refine okk_gl (fun w111_ ew111_ => ?_)
      have t13_ : w111_.toInt = (((u.2 18 p1.toNatClampNeg) + (u.2 19 p1.toNatClampNeg)) - (u.2 18 p1.toNatClampNeg)).toInt := by rw [ew111_]
      have r14_ := IM_r17 I p1.toNatClampNeg
      exact okk_fm_isOn_77 I 200 p1 p2 w111_ (0 : Int32) (u.2 18 p1.toNatClampNeg) (by omega) (by omega) (by omega) (by omega) (by omega) (by omega) (by decide) (by omega)
  · refine okk_ck (vp_I (by omega) (by omega)) ?_
    have r16_ := IM_r17 I p1.toNatClampNeg
    refine okk_ne (fun c15_ c15_I => ?_) (fun c15_ c15_I => ?_)
    · exact okk_some (trivial)
    · exact okk_some (trivial)
set_option maxHeartbeats 4000000 in
theorem okk_fm_again_6 {g : Nat → Int32} {u : g_S} (I : IM g u) : ∀ (n : Nat) (x1 : Int32) (x2 : Int32) (x3 : Int32) (x4 : Int32) (x5 : Int32), 0 ≤ x5.toInt → x5.toInt ≤ 120 → 0 ≤ x2.toInt → x2.toInt ≤ 7 → -1 ≤ x4.toInt → x4.toInt < (u.1 1).toInt → 121 ≤ (n : Int) + x5.toInt → okk (fm_again_6 u n x1 x2 x3 x4 x5) (fun r => (-1 ≤ r.toInt ∧ r.toInt < (u.1 1).toInt)) := by
  intro n
  induction n with
  | zero =>
    intro x1 x2 x3 x4 x5 h0 h1 h2 h3 h4 h5 hf
    exfalso; omega
  | succ n ih =>
    intro x1 x2 x3 x4 x5 h0 h1 h2 h3 h4 h5 hf
    rw [fm_again_6_s]
    have z1_ := IM_s I
    refine okk_le (fun c2_ c2_I => ?_) (fun c2_ c2_I => ?_)
    · try have t4_ : (0 : Int32).toInt = (0 : Int) := (by decide : (0 : Int32).toInt = 0)
      refine okk_lt (fun c3_ c3_I => ?_) (fun c3_ c3_I => ?_)
      · try have t5_ : (-1 : Int32).toInt = (-1 : Int) := (by decide : (-1 : Int32).toInt = -1)
        exact okk_some ((by show -1 ≤ (-1 : Int32).toInt ∧ (-1 : Int32).toInt < (u.1 1).toInt; omega))
      · refine okk_ck (vp_I (by omega) (by omega)) ?_
        refine okk_ck (vp_I (by omega) (by omega)) ?_
        refine okk_lt (fun c6_ c6_I => ?_) (fun c6_ c6_I => ?_)
        · try have t7_ : (-1 : Int32).toInt = (-1 : Int) := (by decide : (-1 : Int32).toInt = -1)
          exact okk_some ((by show -1 ≤ (-1 : Int32).toInt ∧ (-1 : Int32).toInt < (u.1 1).toInt; omega))
        · exact okk_some ((by show -1 ≤ x4.toInt ∧ x4.toInt < (u.1 1).toInt; omega))
    · refine okk_ck (vp_I (by omega) (by omega)) ?_
      refine okk_ne (fun c8_ c8_I => ?_) (fun c8_ c8_I => ?_)
      · have t9_ : (x5 + (1 : Int32)).toInt = (x5.toInt + (1 : Int)) := (oi_add (a := x5) (b := (1 : Int32)) rfl (by decide : (1 : Int32).toInt = 1) (by omega) (by omega))
        refine okk_mono (ih x1 x2 x3 x4 (x5 + (1 : Int32)) (by omega) (by omega) (by omega) (by omega) (by omega) (by omega) (by omega)) (fun r10_ hr10_ => ?_)
        have p11_ := hr10_
        exact (by show -1 ≤ r10_.toInt ∧ r10_.toInt < (u.1 1).toInt; omega)
      · refine okk_bi (okk_fm_isOpen I (by omega) (by omega)) (fun v12_ hv12_ => ?_)
        have p13_ := hv12_
        try have t15_ : (0 : Int32).toInt = (0 : Int) := (by decide : (0 : Int32).toInt = 0)
        refine okk_eq (fun c14_ c14_I => ?_) (fun c14_ c14_I => ?_)
        · have t16_ : (x5 + (1 : Int32)).toInt = (x5.toInt + (1 : Int)) := (oi_add (a := x5) (b := (1 : Int32)) rfl (by decide : (1 : Int32).toInt = 1) (by omega) (by omega))
          refine okk_mono (ih x1 x2 x3 x4 (x5 + (1 : Int32)) (by omega) (by omega) (by omega) (by omega) (by omega) (by omega) (by omega)) (fun r17_ hr17_ => ?_)
          have p18_ := hr17_
          exact (by show -1 ≤ r17_.toInt ∧ r17_.toInt < (u.1 1).toInt; omega)
        · refine okk_bi (okk_fm_isHoax I (by omega) (by omega)) (fun v19_ hv19_ => ?_)
          have p20_ := hv19_
          refine okk_ne (fun c21_ c21_I => ?_) (fun c21_ c21_I => ?_)
          · have t22_ : (x5 + (1 : Int32)).toInt = (x5.toInt + (1 : Int)) := (oi_add (a := x5) (b := (1 : Int32)) rfl (by decide : (1 : Int32).toInt = 1) (by omega) (by omega))
            refine okk_mono (ih x1 x2 x3 x4 (x5 + (1 : Int32)) (by omega) (by omega) (by omega) (by omega) (by omega) (by omega) (by omega)) (fun r23_ hr23_ => ?_)
            have p24_ := hr23_
            exact (by show -1 ≤ r23_.toInt ∧ r23_.toInt < (u.1 1).toInt; omega)
          · have t25_ : (x5 + (1 : Int32)).toInt = (x5.toInt + (1 : Int)) := (oi_add (a := x5) (b := (1 : Int32)) rfl (by decide : (1 : Int32).toInt = 1) (by omega) (by omega))
            refine okk_mono (ih x1 x2 x3 x5 (x5 + (1 : Int32)) (by omega) (by omega) (by omega) (by omega) (by omega) (by omega) (by omega)) (fun r26_ hr26_ => ?_)
            have p27_ := hr26_
            exact (by show -1 ≤ r26_.toInt ∧ r26_.toInt < (u.1 1).toInt; omega)
set_option maxHeartbeats 4000000 in
theorem okk_fm_again {g : Nat → Int32} {u : g_S} (I : IM g u) {p1 : Int32} {p2 : Int32} {p3 : Int32} (h0 : 0 ≤ p2.toInt) (h1 : p2.toInt ≤ 7) : okk (fm_again u p1 p2 p3) (fun r => (-1 ≤ r.toInt ∧ r.toInt < (u.1 1).toInt)) := by
  unfold fm_again
  have z1_ := IM_s I
  have t2_ : (-1 : Int32).toInt = (-1 : Int) := (by decide : (-1 : Int32).toInt = -1)
  have t3_ : (0 : Int32).toInt = (0 : Int) := (by decide : (0 : Int32).toInt = 0)
  refine okk_mono (okk_fm_again_6 I 200 p1 p2 p3 (-1 : Int32) (0 : Int32) (by omega) (by omega) (by omega) (by omega) (by omega) (by omega) (by omega)) (fun r4_ hr4_ => ?_)
  have p5_ := hr4_
  exact (by show -1 ≤ r4_.toInt ∧ r4_.toInt < (u.1 1).toInt; omega)
set_option maxHeartbeats 4000000 in
theorem okk_fm_isBetter {g : Nat → Int32} {u : g_S} (I : IM g u) {p1 : Int32} {p2 : Int32} {p3 : Int32} {p4 : Int32} {p5 : Int32} (h0 : 0 ≤ p1.toInt) (h1 : p1.toInt ≤ 119) (h2 : -1 ≤ p2.toInt) (h3 : p2.toInt ≤ 119) (h4 : 0 ≤ p3.toInt) (h5 : p3.toInt ≤ 7) : okk (fm_isBetter u p1 p2 p3 p4 p5) (fun r => True) := by
  unfold fm_isBetter
  have z1_ := IM_s I
  try have t3_ : (0 : Int32).toInt = (0 : Int) := (by decide : (0 : Int32).toInt = 0)
  refine okk_le (fun c2_ c2_I => ?_) (fun c2_ c2_I => ?_)
  · refine okk_lt (fun c4_ c4_I => ?_) (fun c4_ c4_I => ?_)
    · unfold fm_isBetter_61
      refine okk_ck (vp_I (by omega) (by omega)) ?_
      refine okk_bi (okk_fm_sum I (by omega) (by omega)) (fun v5_ hv5_ => ?_)
      have p6_ := hv5_
      refine okk_ck (vp_I (by omega) (by omega)) ?_
      refine okk_bi (okk_fm_sum I (by omega) (by omega)) (fun v7_ hv7_ => ?_)
      have p8_ := hv7_
      refine okk_ck (vp_I (by omega) (by omega)) ?_
      refine okk_bi (okk_fm_sum I (by omega) (by omega)) (fun v9_ hv9_ => ?_)
      have p10_ := hv9_
      refine okk_ck (vp_I (by omega) (by omega)) ?_
      refine okk_bi (okk_fm_sum I (by omega) (by omega)) (fun v11_ hv11_ => ?_)
      have p12_ := hv11_
      try have t14_ : (v5_ * v7_).toInt = (v5_.toInt * v7_.toInt) := (oi_mul (a := v5_) (b := v7_) rfl rfl (by omega) (by omega))
      try have t15_ : (v9_ * v11_).toInt = (v9_.toInt * v11_.toInt) := (oi_mul (a := v9_) (b := v11_) rfl rfl (by omega) (by omega))
      refine okk_le (fun c13_ c13_I => ?_) (fun c13_ c13_I => ?_)
      · exact okk_some (trivial)
      · exact okk_some (trivial)
    · refine okk_ck (vp_I (by omega) (by omega)) ?_
      refine okk_lt (fun c16_ c16_I => ?_) (fun c16_ c16_I => ?_)
      · unfold fm_isBetter_61
        refine okk_ck (vp_I (by omega) (by omega)) ?_
        refine okk_bi (okk_fm_sum I (by omega) (by omega)) (fun v17_ hv17_ => ?_)
        have p18_ := hv17_
        refine okk_ck (vp_I (by omega) (by omega)) ?_
        refine okk_bi (okk_fm_sum I (by omega) (by omega)) (fun v19_ hv19_ => ?_)
        have p20_ := hv19_
        refine okk_ck (vp_I (by omega) (by omega)) ?_
        refine okk_bi (okk_fm_sum I (by omega) (by omega)) (fun v21_ hv21_ => ?_)
        have p22_ := hv21_
        refine okk_ck (vp_I (by omega) (by omega)) ?_
        refine okk_bi (okk_fm_sum I (by omega) (by omega)) (fun v23_ hv23_ => ?_)
        have p24_ := hv23_
        try have t26_ : (v17_ * v19_).toInt = (v17_.toInt * v19_.toInt) := (oi_mul (a := v17_) (b := v19_) rfl rfl (by omega) (by omega))
        try have t27_ : (v21_ * v23_).toInt = (v21_.toInt * v23_.toInt) := (oi_mul (a := v21_) (b := v23_) rfl rfl (by omega) (by omega))
        refine okk_le (fun c25_ c25_I => ?_) (fun c25_ c25_I => ?_)
        · exact okk_some (trivial)
        · exact okk_some (trivial)
      · refine okk_ck (vp_I (by omega) (by omega)) ?_
        refine okk_lt (fun c28_ c28_I => ?_) (fun c28_ c28_I => ?_)
        · unfold fm_isBetter_61
          refine okk_ck (vp_I (by omega) (by omega)) ?_
          refine okk_bi (okk_fm_sum I (by omega) (by omega)) (fun v29_ hv29_ => ?_)
          have p30_ := hv29_
          refine okk_ck (vp_I (by omega) (by omega)) ?_
          refine okk_bi (okk_fm_sum I (by omega) (by omega)) (fun v31_ hv31_ => ?_)
          have p32_ := hv31_
          refine okk_ck (vp_I (by omega) (by omega)) ?_
          refine okk_bi (okk_fm_sum I (by omega) (by omega)) (fun v33_ hv33_ => ?_)
          have p34_ := hv33_
          refine okk_ck (vp_I (by omega) (by omega)) ?_
          refine okk_bi (okk_fm_sum I (by omega) (by omega)) (fun v35_ hv35_ => ?_)
          have p36_ := hv35_
          try have t38_ : (v29_ * v31_).toInt = (v29_.toInt * v31_.toInt) := (oi_mul (a := v29_) (b := v31_) rfl rfl (by omega) (by omega))
          try have t39_ : (v33_ * v35_).toInt = (v33_.toInt * v35_.toInt) := (oi_mul (a := v33_) (b := v35_) rfl rfl (by omega) (by omega))
          refine okk_le (fun c37_ c37_I => ?_) (fun c37_ c37_I => ?_)
          · exact okk_some (trivial)
          · exact okk_some (trivial)
        · refine okk_ck (vp_I (by omega) (by omega)) ?_
          refine okk_bi (okk_fm_squareOf ) (fun v40_ hv40_ => ?_)
          have p41_ := hv40_
          refine okk_ck (vp_I (by omega) (by omega)) ?_
          refine okk_bi (okk_fm_squareOf ) (fun v42_ hv42_ => ?_)
          have p43_ := hv42_
          refine okk_le (fun c44_ c44_I => ?_) (fun c44_ c44_I => ?_)
          · exact okk_some (trivial)
          · exact okk_some (trivial)
  · exact okk_some (trivial)
