set_option maxHeartbeats 4000000 in
theorem okk_fm_agreeing_6 {g : Nat → Int32} {u : g_S} (I : IM g u) : ∀ (n : Nat) (x1 : Int32) (x2 : Int32) (x3 : Int32) (x4 : Int32) (x5 : Int32) (x6 : Int32) (x7 : Int32), 0 ≤ x7.toInt → x7.toInt ≤ 120 → 0 ≤ x2.toInt → x2.toInt ≤ 7 → -1 ≤ x6.toInt → x6.toInt < (u.1 1).toInt → 121 ≤ (n : Int) + x7.toInt → okk (fm_agreeing_6 u n x1 x2 x3 x4 x5 x6 x7) (fun r => (-1 ≤ r.toInt ∧ r.toInt < (u.1 1).toInt)) := by
  intro n
  induction n with
  | zero =>
    intro x1 x2 x3 x4 x5 x6 x7 h0 h1 h2 h3 h4 h5 hf
    exfalso; omega
  | succ n ih =>
    intro x1 x2 x3 x4 x5 x6 x7 h0 h1 h2 h3 h4 h5 hf
    rw [fm_agreeing_6_s]
    have z1_ := IM_s I
    refine okk_le (fun c2_ c2_I => ?_) (fun c2_ c2_I => ?_)
    · exact okk_some ((by show -1 ≤ x6.toInt ∧ x6.toInt < (u.1 1).toInt; omega))
    · refine okk_ck (vp_I (by omega) (by omega)) ?_
      have r4_ := IM_r8 I x7.toNatClampNeg
      refine okk_ne (fun c3_ c3_I => ?_) (fun c3_ c3_I => ?_)
      · refine okk_t (by decide) ?_
        have t5_ : (x7 + (1 : Int32)).toInt = (x7.toInt + (1 : Int)) := (oi_add (a := x7) (b := (1 : Int32)) rfl (by decide : (1 : Int32).toInt = 1) (by omega) (by omega))
        refine okk_mono (ih x1 x2 x3 x4 x5 x6 (x7 + (1 : Int32)) (by omega) (by omega) (by omega) (by omega) (by omega) (by omega) (by omega)) (fun r6_ hr6_ => ?_)
        have p7_ := hr6_
        exact (by show -1 ≤ r6_.toInt ∧ r6_.toInt < (u.1 1).toInt; omega)
      · refine okk_bi (okk_fm_isOpen I (by omega) (by omega)) (fun v8_ hv8_ => ?_)
        have p9_ := hv8_
        try have t11_ : (0 : Int32).toInt = (0 : Int) := (by decide : (0 : Int32).toInt = 0)
        refine okk_eq (fun c10_ c10_I => ?_) (fun c10_ c10_I => ?_)
        · refine okk_t (by decide) ?_
          have t12_ : (x7 + (1 : Int32)).toInt = (x7.toInt + (1 : Int)) := (oi_add (a := x7) (b := (1 : Int32)) rfl (by decide : (1 : Int32).toInt = 1) (by omega) (by omega))
          refine okk_mono (ih x1 x2 x3 x4 x5 x6 (x7 + (1 : Int32)) (by omega) (by omega) (by omega) (by omega) (by omega) (by omega) (by omega)) (fun r13_ hr13_ => ?_)
          have p14_ := hr13_
          exact (by show -1 ≤ r13_.toInt ∧ r13_.toInt < (u.1 1).toInt; omega)
        · refine okk_bi (okk_fm_isHoax I (by omega) (by omega)) (fun v15_ hv15_ => ?_)
          have p16_ := hv15_
          refine okk_ne (fun c17_ c17_I => ?_) (fun c17_ c17_I => ?_)
          · refine okk_t (by decide) ?_
            have t18_ : (x7 + (1 : Int32)).toInt = (x7.toInt + (1 : Int)) := (oi_add (a := x7) (b := (1 : Int32)) rfl (by decide : (1 : Int32).toInt = 1) (by omega) (by omega))
            refine okk_mono (ih x1 x2 x3 x4 x5 x6 (x7 + (1 : Int32)) (by omega) (by omega) (by omega) (by omega) (by omega) (by omega) (by omega)) (fun r19_ hr19_ => ?_)
            have p20_ := hr19_
            exact (by show -1 ≤ r19_.toInt ∧ r19_.toInt < (u.1 1).toInt; omega)
          · refine okk_bi (okk_fm_meets I (by omega) (by omega) (by omega) (by omega)) (fun v21_ hv21_ => ?_)
            have p22_ := hv21_
            refine okk_ne (fun c23_ c23_I => ?_) (fun c23_ c23_I => ?_)
            · refine okk_t (by decide) ?_
              have t24_ : (x7 + (1 : Int32)).toInt = (x7.toInt + (1 : Int)) := (oi_add (a := x7) (b := (1 : Int32)) rfl (by decide : (1 : Int32).toInt = 1) (by omega) (by omega))
              refine okk_mono (ih x1 x2 x3 x4 x5 x6 (x7 + (1 : Int32)) (by omega) (by omega) (by omega) (by omega) (by omega) (by omega) (by omega)) (fun r25_ hr25_ => ?_)
              have p26_ := hr25_
              exact (by show -1 ≤ r25_.toInt ∧ r25_.toInt < (u.1 1).toInt; omega)
            · refine okk_f (by decide) ?_
              try have t28_ : (2 : Int32).toInt = (2 : Int) := (by decide : (2 : Int32).toInt = 2)
              refine okk_ne (fun c27_ c27_I => ?_) (fun c27_ c27_I => ?_)
              · refine okk_bi (okk_fm_isBetter I (by omega) (by omega) (by omega) (by omega) (by omega) (by omega)) (fun v29_ hv29_ => ?_)
                have p30_ := hv29_
                refine okk_eq (fun c31_ c31_I => ?_) (fun c31_ c31_I => ?_)
                · have t32_ : (x7 + (1 : Int32)).toInt = (x7.toInt + (1 : Int)) := (oi_add (a := x7) (b := (1 : Int32)) rfl (by decide : (1 : Int32).toInt = 1) (by omega) (by omega))
                  refine okk_mono (ih x1 x2 x3 x4 x5 x6 (x7 + (1 : Int32)) (by omega) (by omega) (by omega) (by omega) (by omega) (by omega) (by omega)) (fun r33_ hr33_ => ?_)
                  have p34_ := hr33_
                  exact (by show -1 ≤ r33_.toInt ∧ r33_.toInt < (u.1 1).toInt; omega)
                · have t35_ : (x7 + (1 : Int32)).toInt = (x7.toInt + (1 : Int)) := (oi_add (a := x7) (b := (1 : Int32)) rfl (by decide : (1 : Int32).toInt = 1) (by omega) (by omega))
                  refine okk_mono (ih x1 x2 x3 x4 x5 x7 (x7 + (1 : Int32)) (by omega) (by omega) (by omega) (by omega) (by omega) (by omega) (by omega)) (fun r36_ hr36_ => ?_)
                  have p37_ := hr36_
                  exact (by show -1 ≤ r36_.toInt ∧ r36_.toInt < (u.1 1).toInt; omega)
              · refine okk_bi (okk_fm_isBetter I (by omega) (by omega) (by omega) (by omega) (by omega) (by omega)) (fun v38_ hv38_ => ?_)
                have p39_ := hv38_
                refine okk_eq (fun c40_ c40_I => ?_) (fun c40_ c40_I => ?_)
                · have t41_ : (x7 + (1 : Int32)).toInt = (x7.toInt + (1 : Int)) := (oi_add (a := x7) (b := (1 : Int32)) rfl (by decide : (1 : Int32).toInt = 1) (by omega) (by omega))
                  refine okk_mono (ih x1 x2 x3 x4 x5 x6 (x7 + (1 : Int32)) (by omega) (by omega) (by omega) (by omega) (by omega) (by omega) (by omega)) (fun r42_ hr42_ => ?_)
                  have p43_ := hr42_
                  exact (by show -1 ≤ r42_.toInt ∧ r42_.toInt < (u.1 1).toInt; omega)
                · have t44_ : (x7 + (1 : Int32)).toInt = (x7.toInt + (1 : Int)) := (oi_add (a := x7) (b := (1 : Int32)) rfl (by decide : (1 : Int32).toInt = 1) (by omega) (by omega))
                  refine okk_mono (ih x1 x2 x3 x4 x5 x7 (x7 + (1 : Int32)) (by omega) (by omega) (by omega) (by omega) (by omega) (by omega) (by omega)) (fun r45_ hr45_ => ?_)
                  have p46_ := hr45_
                  exact (by show -1 ≤ r45_.toInt ∧ r45_.toInt < (u.1 1).toInt; omega)
set_option maxHeartbeats 4000000 in
theorem okk_fm_agreeing {g : Nat → Int32} {u : g_S} (I : IM g u) {p1 : Int32} {p2 : Int32} {p3 : Int32} {p4 : Int32} {p5 : Int32} (h0 : 0 ≤ p2.toInt) (h1 : p2.toInt ≤ 7) : okk (fm_agreeing u p1 p2 p3 p4 p5) (fun r => (-1 ≤ r.toInt ∧ r.toInt < (u.1 1).toInt)) := by
  unfold fm_agreeing
  have z1_ := IM_s I
  have t2_ : (-1 : Int32).toInt = (-1 : Int) := (by decide : (-1 : Int32).toInt = -1)
  have t3_ : (0 : Int32).toInt = (0 : Int) := (by decide : (0 : Int32).toInt = 0)
  refine okk_mono (okk_fm_agreeing_6 I 200 p1 p2 p3 p4 p5 (-1 : Int32) (0 : Int32) (by omega) (by omega) (by omega) (by omega) (by omega) (by omega) (by omega)) (fun r4_ hr4_ => ?_)
  have p5_ := hr4_
  exact (by show -1 ≤ r4_.toInt ∧ r4_.toInt < (u.1 1).toInt; omega)
set_option maxHeartbeats 4000000 in
theorem okk_fm_isRange {g : Nat → Int32} {u : g_S} (I : IM g u) {p1 : Int32} {p2 : Int32} {p3 : Int32} : okk (fm_isRange u p1 p2 p3) (fun r => True) := by
  unfold fm_isRange
  have z1_ := IM_s I
  try have t2_ : (0 : Int32).toInt = (0 : Int) := (by decide : (0 : Int32).toInt = 0)
  try have t3_ : (999 : Int32).toInt = (999 : Int) := (by decide : (999 : Int32).toInt = 999)
  refine okk_in (fun b4_ => ?_) (fun b4_ => ?_)
  · refine okk_f (by decide) ?_
    try have t5_ : (-1 : Int32).toInt = (-1 : Int) := (by decide : (-1 : Int32).toInt = -1)
    try have t6_ : (99999999 : Int32).toInt = (99999999 : Int) := (by decide : (99999999 : Int32).toInt = 99999999)
    refine okk_in (fun b7_ => ?_) (fun b7_ => ?_)
    · refine okk_f (by decide) ?_
      refine okk_ne (fun c8_ c8_I => ?_) (fun c8_ c8_I => ?_)
      · have t9_ : ((u.1 1) - (1 : Int32)).toInt = ((u.1 1).toInt - (1 : Int)) := (oi_sub (a := (u.1 1)) (b := (1 : Int32)) rfl (by decide : (1 : Int32).toInt = 1) (by omega) (by omega))
        refine okk_ck (vp_I (by omega) (by omega)) ?_
        refine okk_lt (fun c10_ c10_I => ?_) (fun c10_ c10_I => ?_)
        · exact okk_some (trivial)
        · exact okk_some (trivial)
      · refine okk_lt (fun c11_ c11_I => ?_) (fun c11_ c11_I => ?_)
        · exact okk_some (trivial)
        · exact okk_some (trivial)
    · refine okk_t (by decide) ?_
      exact okk_some (trivial)
  · refine okk_t (by decide) ?_
    exact okk_some (trivial)
set_option maxHeartbeats 4000000 in
theorem okk_fm_isKnown {p0 : Int32} {p1 : Int32} : okk (fm_isKnown p0 p1) (fun r => (r.toInt = 0 ∨ (r.toInt = 1 ∧ 0 ≤ p0.toInt ∧ p0.toInt ≤ 7))) := by
  unfold fm_isKnown
  refine okk_isKind (fun b1_ => ?_) (fun b1_ => ?_)
  · refine okk_f (by decide) ?_
    try have t2_ : (-1 : Int32).toInt = (-1 : Int) := (by decide : (-1 : Int32).toInt = -1)
    try have t3_ : (7 : Int32).toInt = (7 : Int) := (by decide : (7 : Int32).toInt = 7)
    refine okk_in (fun b4_ => ?_) (fun b4_ => ?_)
    · refine okk_f (by decide) ?_
      try have t5_ : (1 : Int32).toInt = (1 : Int) := (by decide : (1 : Int32).toInt = 1)
      exact okk_some ((by show (1 : Int32).toInt = 0 ∨ ((1 : Int32).toInt = 1 ∧ 0 ≤ p0.toInt ∧ p0.toInt ≤ 7); omega))
    · refine okk_t (by decide) ?_
      try have t6_ : (0 : Int32).toInt = (0 : Int) := (by decide : (0 : Int32).toInt = 0)
      exact okk_some ((by show (0 : Int32).toInt = 0 ∨ ((0 : Int32).toInt = 1 ∧ 0 ≤ p0.toInt ∧ p0.toInt ≤ 7); omega))
  · refine okk_t (by decide) ?_
    try have t7_ : (0 : Int32).toInt = (0 : Int) := (by decide : (0 : Int32).toInt = 0)
    exact okk_some ((by show (0 : Int32).toInt = 0 ∨ ((0 : Int32).toInt = 1 ∧ 0 ≤ p0.toInt ∧ p0.toInt ≤ 7); omega))
set_option maxHeartbeats 4000000 in
theorem okk_fm_size_4 {g : Nat → Int32} {u : g_S} (I : IM g u) : ∀ (n : Nat) (x1 : Int32) (x2 : Int32) (x3 : Int32), 0 ≤ x3.toInt → x3.toInt ≤ 120 → 121 ≤ (n : Int) + x3.toInt → okk (fm_size_4 u n x1 x2 x3) (fun r => True) := by
  intro n
  induction n with
  | zero =>
    intro x1 x2 x3 h0 h1 hf
    exfalso; omega
  | succ n ih =>
    intro x1 x2 x3 h0 h1 hf
    rw [fm_size_4_s]
    have z1_ := IM_s I
    refine okk_le (fun c2_ c2_I => ?_) (fun c2_ c2_I => ?_)
    · exact okk_some (trivial)
    · refine okk_ck (vp_I (by omega) (by omega)) ?_
      have r4_ := IM_r12 I x3.toNatClampNeg
      refine okk_ne (fun c3_ c3_I => ?_) (fun c3_ c3_I => ?_)
      · try have t6_ : (x2 + (0 : Int32)).toInt = (x2.toInt + (0 : Int)) := (oi_add (a := x2) (b := (0 : Int32)) rfl (by decide : (0 : Int32).toInt = 0) (by omega) (by omega))
        refine okk_gl (fun w15_ ew15_ => ?_)
        have t7_ : w15_.toInt = (x2 + (0 : Int32)).toInt := by rw [ew15_]
        have t8_ : (x3 + (1 : Int32)).toInt = (x3.toInt + (1 : Int)) := (oi_add (a := x3) (b := (1 : Int32)) rfl (by decide : (1 : Int32).toInt = 1) (by omega) (by omega))
        exact ih x1 w15_ (x3 + (1 : Int32)) (by omega) (by omega) (by omega)
      · try have t10_ : (x2 + (1 : Int32)).toInt = (x2.toInt + (1 : Int)) := (oi_add (a := x2) (b := (1 : Int32)) rfl (by decide : (1 : Int32).toInt = 1) (by omega) (by omega))
        refine okk_gl (fun w29_ ew29_ => ?_)
        have t11_ : w29_.toInt = (x2 + (1 : Int32)).toInt := by rw [ew29_]
        have t12_ : (x3 + (1 : Int32)).toInt = (x3.toInt + (1 : Int)) := (oi_add (a := x3) (b := (1 : Int32)) rfl (by decide : (1 : Int32).toInt = 1) (by omega) (by omega))
        exact ih x1 w29_ (x3 + (1 : Int32)) (by omega) (by omega) (by omega)
set_option maxHeartbeats 4000000 in
theorem okk_fm_size {g : Nat → Int32} {u : g_S} (I : IM g u) {p1 : Int32} : okk (fm_size u p1) (fun r => True) := by
  unfold fm_size
  have z1_ := IM_s I
  have t2_ : (0 : Int32).toInt = (0 : Int) := (by decide : (0 : Int32).toInt = 0)
  exact okk_fm_size_4 I 200 p1 (0 : Int32) (0 : Int32) (by omega) (by omega) (by omega)
set_option maxHeartbeats 4000000 in
theorem okk_fm_weightOf_4 {g : Nat → Int32} {u : g_S} (I : IM g u) : ∀ (n : Nat) (x1 : Int32) (x2 : Int32) (x3 : Int32), 0 ≤ x3.toInt → x3.toInt ≤ 120 → 121 ≤ (n : Int) + x3.toInt → okk (fm_weightOf_4 u n x1 x2 x3) (fun r => True) := by
  intro n
  induction n with
  | zero =>
    intro x1 x2 x3 h0 h1 hf
    exfalso; omega
  | succ n ih =>
    intro x1 x2 x3 h0 h1 hf
    rw [fm_weightOf_4_s]
    have z1_ := IM_s I
    refine okk_le (fun c2_ c2_I => ?_) (fun c2_ c2_I => ?_)
    · exact okk_some (trivial)
    · refine okk_ck (vp_I (by omega) (by omega)) ?_
      have r4_ := IM_r12 I x3.toNatClampNeg
      refine okk_ne (fun c3_ c3_I => ?_) (fun c3_ c3_I => ?_)
      · have t5_ : (x3 + (1 : Int32)).toInt = (x3.toInt + (1 : Int)) := (oi_add (a := x3) (b := (1 : Int32)) rfl (by decide : (1 : Int32).toInt = 1) (by omega) (by omega))
        exact ih x1 x2 (x3 + (1 : Int32)) (by omega) (by omega) (by omega)
      · refine okk_bi (okk_fm_isHoax I (by omega) (by omega)) (fun v6_ hv6_ => ?_)
        have p7_ := hv6_
        try have t9_ : (0 : Int32).toInt = (0 : Int) := (by decide : (0 : Int32).toInt = 0)
        refine okk_ne (fun c8_ c8_I => ?_) (fun c8_ c8_I => ?_)
        · have t10_ : (x3 + (1 : Int32)).toInt = (x3.toInt + (1 : Int)) := (oi_add (a := x3) (b := (1 : Int32)) rfl (by decide : (1 : Int32).toInt = 1) (by omega) (by omega))
          exact ih x1 x2 (x3 + (1 : Int32)) (by omega) (by omega) (by omega)
        · refine okk_ck (vp_I (by omega) (by omega)) ?_
          refine okk_eq (fun c11_ c11_I => ?_) (fun c11_ c11_I => ?_)
          · refine okk_ck (vp_I (by omega) (by omega)) ?_
            refine okk_lt (fun c12_ c12_I => ?_) (fun c12_ c12_I => ?_)
            · try have t14_ : (x2 + (((4 : Int32) - (0 : Int32)) + (0 : Int32))).toInt = (x2.toInt + (((4 : Int) - (0 : Int)) + (0 : Int))) := (oi_add (a := x2) (b := (((4 : Int32) - (0 : Int32)) + (0 : Int32))) rfl (oi_add (a := ((4 : Int32) - (0 : Int32))) (b := (0 : Int32)) (oi_sub (a := (4 : Int32)) (b := (0 : Int32)) (by decide : (4 : Int32).toInt = 4) (by decide : (0 : Int32).toInt = 0) (by omega) (by omega)) (by decide : (0 : Int32).toInt = 0) (by omega) (by omega)) (by omega) (by omega))
              refine okk_gl (fun w213_ ew213_ => ?_)
              have t15_ : w213_.toInt = (x2 + (((4 : Int32) - (0 : Int32)) + (0 : Int32))).toInt := by rw [ew213_]
              have t16_ : (x3 + (1 : Int32)).toInt = (x3.toInt + (1 : Int)) := (oi_add (a := x3) (b := (1 : Int32)) rfl (by decide : (1 : Int32).toInt = 1) (by omega) (by omega))
              exact ih x1 w213_ (x3 + (1 : Int32)) (by omega) (by omega) (by omega)
            · try have t18_ : (x2 + (((4 : Int32) - (0 : Int32)) + (1 : Int32))).toInt = (x2.toInt + (((4 : Int) - (0 : Int)) + (1 : Int))) := (oi_add (a := x2) (b := (((4 : Int32) - (0 : Int32)) + (1 : Int32))) rfl (oi_add (a := ((4 : Int32) - (0 : Int32))) (b := (1 : Int32)) (oi_sub (a := (4 : Int32)) (b := (0 : Int32)) (by decide : (4 : Int32).toInt = 4) (by decide : (0 : Int32).toInt = 0) (by omega) (by omega)) (by decide : (1 : Int32).toInt = 1) (by omega) (by omega)) (by omega) (by omega))
              refine okk_gl (fun w317_ ew317_ => ?_)
              have t19_ : w317_.toInt = (x2 + (((4 : Int32) - (0 : Int32)) + (1 : Int32))).toInt := by rw [ew317_]
              have t20_ : (x3 + (1 : Int32)).toInt = (x3.toInt + (1 : Int)) := (oi_add (a := x3) (b := (1 : Int32)) rfl (by decide : (1 : Int32).toInt = 1) (by omega) (by omega))
              exact ih x1 w317_ (x3 + (1 : Int32)) (by omega) (by omega) (by omega)
          · refine okk_ck (vp_I (by omega) (by omega)) ?_
            refine okk_lt (fun c21_ c21_I => ?_) (fun c21_ c21_I => ?_)
            · try have t23_ : (x2 + (((4 : Int32) - (2 : Int32)) + (0 : Int32))).toInt = (x2.toInt + (((4 : Int) - (2 : Int)) + (0 : Int))) := (oi_add (a := x2) (b := (((4 : Int32) - (2 : Int32)) + (0 : Int32))) rfl (oi_add (a := ((4 : Int32) - (2 : Int32))) (b := (0 : Int32)) (oi_sub (a := (4 : Int32)) (b := (2 : Int32)) (by decide : (4 : Int32).toInt = 4) (by decide : (2 : Int32).toInt = 2) (by omega) (by omega)) (by decide : (0 : Int32).toInt = 0) (by omega) (by omega)) (by omega) (by omega))
              refine okk_gl (fun w422_ ew422_ => ?_)
              have t24_ : w422_.toInt = (x2 + (((4 : Int32) - (2 : Int32)) + (0 : Int32))).toInt := by rw [ew422_]
              have t25_ : (x3 + (1 : Int32)).toInt = (x3.toInt + (1 : Int)) := (oi_add (a := x3) (b := (1 : Int32)) rfl (by decide : (1 : Int32).toInt = 1) (by omega) (by omega))
              exact ih x1 w422_ (x3 + (1 : Int32)) (by omega) (by omega) (by omega)
            · try have t27_ : (x2 + (((4 : Int32) - (2 : Int32)) + (1 : Int32))).toInt = (x2.toInt + (((4 : Int) - (2 : Int)) + (1 : Int))) := (oi_add (a := x2) (b := (((4 : Int32) - (2 : Int32)) + (1 : Int32))) rfl (oi_add (a := ((4 : Int32) - (2 : Int32))) (b := (1 : Int32)) (oi_sub (a := (4 : Int32)) (b := (2 : Int32)) (by decide : (4 : Int32).toInt = 4) (by decide : (2 : Int32).toInt = 2) (by omega) (by omega)) (by decide : (1 : Int32).toInt = 1) (by omega) (by omega)) (by omega) (by omega))
              refine okk_gl (fun w526_ ew526_ => ?_)
              have t28_ : w526_.toInt = (x2 + (((4 : Int32) - (2 : Int32)) + (1 : Int32))).toInt := by rw [ew526_]
              have t29_ : (x3 + (1 : Int32)).toInt = (x3.toInt + (1 : Int)) := (oi_add (a := x3) (b := (1 : Int32)) rfl (by decide : (1 : Int32).toInt = 1) (by omega) (by omega))
              exact ih x1 w526_ (x3 + (1 : Int32)) (by omega) (by omega) (by omega)
set_option maxHeartbeats 4000000 in
theorem okk_fm_weightOf {g : Nat → Int32} {u : g_S} (I : IM g u) {p1 : Int32} : okk (fm_weightOf u p1) (fun r => True) := by
  unfold fm_weightOf
  have z1_ := IM_s I
  have t2_ : (0 : Int32).toInt = (0 : Int) := (by decide : (0 : Int32).toInt = 0)
  exact okk_fm_weightOf_4 I 200 p1 (0 : Int32) (0 : Int32) (by omega) (by omega) (by omega)
set_option maxHeartbeats 4000000 in
theorem okk_fm_placeOf_2 {g : Nat → Int32} {u : g_S} (I : IM g u) : ∀ (n : Nat) (x1 : Int32) (x2 : Int32), 0 ≤ x2.toInt → x2.toInt ≤ 120 → 121 ≤ (n : Int) + x2.toInt → okk (fm_placeOf_2 u n x1 x2) (fun r => True) := by
  intro n
  induction n with
  | zero =>
    intro x1 x2 h0 h1 hf
    exfalso; omega
  | succ n ih =>
    intro x1 x2 h0 h1 hf
    rw [fm_placeOf_2_s]
    have z1_ := IM_s I
    refine okk_le (fun c2_ c2_I => ?_) (fun c2_ c2_I => ?_)
    · exact okk_some (trivial)
    · refine okk_ck (vp_I (by omega) (by omega)) ?_
      have r4_ := IM_r12 I x2.toNatClampNeg
      refine okk_ne (fun c3_ c3_I => ?_) (fun c3_ c3_I => ?_)
      · have t5_ : (x2 + (1 : Int32)).toInt = (x2.toInt + (1 : Int)) := (oi_add (a := x2) (b := (1 : Int32)) rfl (by decide : (1 : Int32).toInt = 1) (by omega) (by omega))
        exact ih x1 (x2 + (1 : Int32)) (by omega) (by omega) (by omega)
      · refine okk_bi (okk_fm_isHoax I (by omega) (by omega)) (fun v6_ hv6_ => ?_)
        have p7_ := hv6_
        try have t9_ : (0 : Int32).toInt = (0 : Int) := (by decide : (0 : Int32).toInt = 0)
        refine okk_ne (fun c8_ c8_I => ?_) (fun c8_ c8_I => ?_)
        · have t10_ : (x2 + (1 : Int32)).toInt = (x2.toInt + (1 : Int)) := (oi_add (a := x2) (b := (1 : Int32)) rfl (by decide : (1 : Int32).toInt = 1) (by omega) (by omega))
          exact ih x1 (x2 + (1 : Int32)) (by omega) (by omega) (by omega)
        · refine okk_ck (vp_I (by omega) (by omega)) ?_
          refine okk_lt (fun c11_ c11_I => ?_) (fun c11_ c11_I => ?_)
          · have t12_ : (x2 + (1 : Int32)).toInt = (x2.toInt + (1 : Int)) := (oi_add (a := x2) (b := (1 : Int32)) rfl (by decide : (1 : Int32).toInt = 1) (by omega) (by omega))
            exact ih x1 (x2 + (1 : Int32)) (by omega) (by omega) (by omega)
          · refine okk_ck (vp_I (by omega) (by omega)) ?_
            exact okk_some (trivial)
set_option maxHeartbeats 4000000 in
theorem okk_fm_placeOf {g : Nat → Int32} {u : g_S} (I : IM g u) {p1 : Int32} : okk (fm_placeOf u p1) (fun r => True) := by
  unfold fm_placeOf
  have z1_ := IM_s I
  have t2_ : (0 : Int32).toInt = (0 : Int) := (by decide : (0 : Int32).toInt = 0)
  exact okk_fm_placeOf_2 I 200 p1 (0 : Int32) (by omega) (by omega) (by omega)
set_option maxHeartbeats 4000000 in
theorem okk_fm_latestOf_4 {g : Nat → Int32} {u : g_S} (I : IM g u) : ∀ (n : Nat) (x1 : Int32) (x2 : Int32) (x3 : Int32), 0 ≤ x3.toInt → x3.toInt ≤ 120 → 121 ≤ (n : Int) + x3.toInt → okk (fm_latestOf_4 u n x1 x2 x3) (fun r => True) := by
  intro n
  induction n with
  | zero =>
    intro x1 x2 x3 h0 h1 hf
    exfalso; omega
  | succ n ih =>
    intro x1 x2 x3 h0 h1 hf
    rw [fm_latestOf_4_s]
    have z1_ := IM_s I
    refine okk_le (fun c2_ c2_I => ?_) (fun c2_ c2_I => ?_)
    · exact okk_some (trivial)
    · refine okk_ck (vp_I (by omega) (by omega)) ?_
      have r4_ := IM_r12 I x3.toNatClampNeg
      refine okk_ne (fun c3_ c3_I => ?_) (fun c3_ c3_I => ?_)
      · have t5_ : (x3 + (1 : Int32)).toInt = (x3.toInt + (1 : Int)) := (oi_add (a := x3) (b := (1 : Int32)) rfl (by decide : (1 : Int32).toInt = 1) (by omega) (by omega))
        exact ih x1 x2 (x3 + (1 : Int32)) (by omega) (by omega) (by omega)
      · refine okk_ck (vp_I (by omega) (by omega)) ?_
        refine okk_gl (fun w16_ ew16_ => ?_)
        have t7_ : w16_.toInt = (u.2 11 x3.toNatClampNeg).toInt := by rw [ew16_]
        have t8_ : (x3 + (1 : Int32)).toInt = (x3.toInt + (1 : Int)) := (oi_add (a := x3) (b := (1 : Int32)) rfl (by decide : (1 : Int32).toInt = 1) (by omega) (by omega))
        exact ih x1 w16_ (x3 + (1 : Int32)) (by omega) (by omega) (by omega)
set_option maxHeartbeats 4000000 in
theorem okk_fm_latestOf {g : Nat → Int32} {u : g_S} (I : IM g u) {p1 : Int32} : okk (fm_latestOf u p1) (fun r => True) := by
  unfold fm_latestOf
  have z1_ := IM_s I
  have t2_ : (0 : Int32).toInt = (0 : Int) := (by decide : (0 : Int32).toInt = 0)
  exact okk_fm_latestOf_4 I 200 p1 (-1 : Int32) (0 : Int32) (by omega) (by omega) (by omega)
set_option maxHeartbeats 4000000 in
theorem okk_fm_rule {g : Nat → Int32} {u : g_S} (I : IM g u) {p1 : Int32} {p2 : Int32} {p3 : Int32} {p4 : Int32} {p5 : Int32} : okk (fm_rule u p1 p2 p3 p4 p5) (fun r => IM g r ∧ (((r.1 0).toInt = 1 ∧ ¬ (0 ≤ p1.toInt ∧ p1.toInt ≤ 7)) ∨ ((r.1 0).toInt = 2 ∧ (0 ≤ p1.toInt ∧ p1.toInt ≤ 7) ∧ ¬ (0 ≤ p2.toInt ∧ p2.toInt ≤ 20000 ∧ 0 ≤ p3.toInt ∧ p3.toInt ≤ 100000 ∧ 0 ≤ p4.toInt ∧ p4.toInt ≤ 100 ∧ 1 ≤ p5.toInt ∧ p5.toInt ≤ 100)) ∨ ((r.1 0).toInt = 0 ∧ (0 ≤ p1.toInt ∧ p1.toInt ≤ 7) ∧ (0 ≤ p2.toInt ∧ p2.toInt ≤ 20000 ∧ 0 ≤ p3.toInt ∧ p3.toInt ≤ 100000 ∧ 0 ≤ p4.toInt ∧ p4.toInt ≤ 100 ∧ 1 ≤ p5.toInt ∧ p5.toInt ≤ 100)))) := by
  unfold fm_rule
  have z1_ := IM_s I
  try have t2_ : (0 : Int32).toInt = (0 : Int) := (by decide : (0 : Int32).toInt = 0)
  try have t3_ : (20000 : Int32).toInt = (20000 : Int) := (by decide : (20000 : Int32).toInt = 20000)
  refine okk_in (fun b4_ => ?_) (fun b4_ => ?_)
  · refine okk_f (by decide) ?_
    try have t5_ : (100000 : Int32).toInt = (100000 : Int) := (by decide : (100000 : Int32).toInt = 100000)
    refine okk_in (fun b6_ => ?_) (fun b6_ => ?_)
    · refine okk_f (by decide) ?_
      try have t7_ : (100 : Int32).toInt = (100 : Int) := (by decide : (100 : Int32).toInt = 100)
      refine okk_in (fun b8_ => ?_) (fun b8_ => ?_)
      · refine okk_f (by decide) ?_
        try have t9_ : (1 : Int32).toInt = (1 : Int) := (by decide : (1 : Int32).toInt = 1)
        refine okk_in (fun b10_ => ?_) (fun b10_ => ?_)
        · refine okk_t (by decide) ?_
          unfold fm_rule_48
          refine okk_isKind (fun b11_ => ?_) (fun b11_ => ?_)
          · refine okk_t (by decide) ?_
            unfold fm_rule_63
            obtain ⟨u12_, eu12_⟩ : ∃ y, y = g_sI u 0 (0 : Int32) := ⟨_, rfl⟩
            refine okk_bs (v := ((0 : Int32), u12_)) (by rw [eu12_]; exact fm_thr_0 _) ?_
            dsimp only
            have Iu12_ : IM g u12_ := by rw [eu12_]; exact IM_ix I _ (by decide)
            have h013_ : (u12_.1 0).toInt = 0 := by rw [eu12_, rdI, if_pos rfl]; decide
            have z14_ : (u12_.1 1).toInt = (u.1 1).toInt := by rw [eu12_]; rfl
            have z15_ : (u12_.1 2).toInt = (u.1 2).toInt := by rw [eu12_]; rfl
            refine okk_t (by decide) ?_
            refine okk_ck (vp_I (by omega) (by omega)) ?_
            refine okk_gl (fun u416_ eu416_ => ?_)
            have Iu416_ : IM g u416_ := by rw [eu416_]; exact IM_wx Iu12_ 0 _ _ rfl rfl (by decide)
            have z17_ : (u416_.1 0).toInt = (u12_.1 0).toInt := by rw [eu416_]; rfl
            have z18_ : (u416_.1 1).toInt = (u12_.1 1).toInt := by rw [eu416_]; rfl
            have z19_ : (u416_.1 2).toInt = (u12_.1 2).toInt := by rw [eu416_]; rfl
            refine okk_ck (vp_I (by omega) (by omega)) ?_
            refine okk_gl (fun u520_ eu520_ => ?_)
            have Iu520_ : IM g u520_ := by rw [eu520_]; exact IM_wx Iu416_ 1 _ _ rfl rfl (by decide)
            have z21_ : (u520_.1 0).toInt = (u416_.1 0).toInt := by rw [eu520_]; rfl
            have z22_ : (u520_.1 1).toInt = (u416_.1 1).toInt := by rw [eu520_]; rfl
            have z23_ : (u520_.1 2).toInt = (u416_.1 2).toInt := by rw [eu520_]; rfl
            refine okk_ck (vp_I (by omega) (by omega)) ?_
            refine okk_gl (fun u624_ eu624_ => ?_)
            have Iu624_ : IM g u624_ := by rw [eu624_]; exact IM_wx Iu520_ 2 _ _ rfl rfl (by decide)
            have z25_ : (u624_.1 0).toInt = (u520_.1 0).toInt := by rw [eu624_]; rfl
            have z26_ : (u624_.1 1).toInt = (u520_.1 1).toInt := by rw [eu624_]; rfl
            have z27_ : (u624_.1 2).toInt = (u520_.1 2).toInt := by rw [eu624_]; rfl
            refine okk_ck (vp_I (by omega) (by omega)) ?_
            refine okk_gl (fun u728_ eu728_ => ?_)
            have Iu728_ : IM g u728_ := by rw [eu728_]; exact IM_wx Iu624_ 3 _ _ rfl rfl (by decide)
            have z29_ : (u728_.1 0).toInt = (u624_.1 0).toInt := by rw [eu728_]; rfl
            have z30_ : (u728_.1 1).toInt = (u624_.1 1).toInt := by rw [eu728_]; rfl
            have z31_ : (u728_.1 2).toInt = (u624_.1 2).toInt := by rw [eu728_]; rfl
            exact okk_some (⟨Iu728_, (by show ((u728_.1 0).toInt = 1 ∧ ¬ (0 ≤ p1.toInt ∧ p1.toInt ≤ 7)) ∨ ((u728_.1 0).toInt = 2 ∧ (0 ≤ p1.toInt ∧ p1.toInt ≤ 7) ∧ ¬ (0 ≤ p2.toInt ∧ p2.toInt ≤ 20000 ∧ 0 ≤ p3.toInt ∧ p3.toInt ≤ 100000 ∧ 0 ≤ p4.toInt ∧ p4.toInt ≤ 100 ∧ 1 ≤ p5.toInt ∧ p5.toInt ≤ 100)) ∨ ((u728_.1 0).toInt = 0 ∧ (0 ≤ p1.toInt ∧ p1.toInt ≤ 7) ∧ (0 ≤ p2.toInt ∧ p2.toInt ≤ 20000 ∧ 0 ≤ p3.toInt ∧ p3.toInt ≤ 100000 ∧ 0 ≤ p4.toInt ∧ p4.toInt ≤ 100 ∧ 1 ≤ p5.toInt ∧ p5.toInt ≤ 100)); omega)⟩)
          · refine okk_f (by decide) ?_
            unfold fm_rule_63
            obtain ⟨u32_, eu32_⟩ : ∃ y, y = g_sI u 0 (1 : Int32) := ⟨_, rfl⟩
            refine okk_bs (v := ((1 : Int32), u32_)) (by rw [eu32_]; exact fm_thr_1 _ _ _) ?_
            dsimp only
            have Iu32_ : IM g u32_ := by rw [eu32_]; exact IM_ix I _ (by decide)
            have h033_ : (u32_.1 0).toInt = 1 := by rw [eu32_, rdI, if_pos rfl]; decide
            have z34_ : (u32_.1 1).toInt = (u.1 1).toInt := by rw [eu32_]; rfl
            have z35_ : (u32_.1 2).toInt = (u.1 2).toInt := by rw [eu32_]; rfl
            refine okk_f (by decide) ?_
            exact okk_some (⟨Iu32_, (by show ((u32_.1 0).toInt = 1 ∧ ¬ (0 ≤ p1.toInt ∧ p1.toInt ≤ 7)) ∨ ((u32_.1 0).toInt = 2 ∧ (0 ≤ p1.toInt ∧ p1.toInt ≤ 7) ∧ ¬ (0 ≤ p2.toInt ∧ p2.toInt ≤ 20000 ∧ 0 ≤ p3.toInt ∧ p3.toInt ≤ 100000 ∧ 0 ≤ p4.toInt ∧ p4.toInt ≤ 100 ∧ 1 ≤ p5.toInt ∧ p5.toInt ≤ 100)) ∨ ((u32_.1 0).toInt = 0 ∧ (0 ≤ p1.toInt ∧ p1.toInt ≤ 7) ∧ (0 ≤ p2.toInt ∧ p2.toInt ≤ 20000 ∧ 0 ≤ p3.toInt ∧ p3.toInt ≤ 100000 ∧ 0 ≤ p4.toInt ∧ p4.toInt ≤ 100 ∧ 1 ≤ p5.toInt ∧ p5.toInt ≤ 100)); omega)⟩)
        · refine okk_f (by decide) ?_
          unfold fm_rule_48
          refine okk_isKind (fun b36_ => ?_) (fun b36_ => ?_)
          · refine okk_t (by decide) ?_
            unfold fm_rule_63
            obtain ⟨u37_, eu37_⟩ : ∃ y, y = g_sI u 0 (2 : Int32) := ⟨_, rfl⟩
            refine okk_bs (v := ((1 : Int32), u37_)) (by rw [eu37_]; exact fm_thr_2 _ _) ?_
            dsimp only
            have Iu37_ : IM g u37_ := by rw [eu37_]; exact IM_ix I _ (by decide)
            have h038_ : (u37_.1 0).toInt = 2 := by rw [eu37_, rdI, if_pos rfl]; decide
            have z39_ : (u37_.1 1).toInt = (u.1 1).toInt := by rw [eu37_]; rfl
            have z40_ : (u37_.1 2).toInt = (u.1 2).toInt := by rw [eu37_]; rfl
            refine okk_f (by decide) ?_
            exact okk_some (⟨Iu37_, (by show ((u37_.1 0).toInt = 1 ∧ ¬ (0 ≤ p1.toInt ∧ p1.toInt ≤ 7)) ∨ ((u37_.1 0).toInt = 2 ∧ (0 ≤ p1.toInt ∧ p1.toInt ≤ 7) ∧ ¬ (0 ≤ p2.toInt ∧ p2.toInt ≤ 20000 ∧ 0 ≤ p3.toInt ∧ p3.toInt ≤ 100000 ∧ 0 ≤ p4.toInt ∧ p4.toInt ≤ 100 ∧ 1 ≤ p5.toInt ∧ p5.toInt ≤ 100)) ∨ ((u37_.1 0).toInt = 0 ∧ (0 ≤ p1.toInt ∧ p1.toInt ≤ 7) ∧ (0 ≤ p2.toInt ∧ p2.toInt ≤ 20000 ∧ 0 ≤ p3.toInt ∧ p3.toInt ≤ 100000 ∧ 0 ≤ p4.toInt ∧ p4.toInt ≤ 100 ∧ 1 ≤ p5.toInt ∧ p5.toInt ≤ 100)); omega)⟩)
          · refine okk_f (by decide) ?_
            unfold fm_rule_63
            obtain ⟨u41_, eu41_⟩ : ∃ y, y = g_sI u 0 (1 : Int32) := ⟨_, rfl⟩
            refine okk_bs (v := ((1 : Int32), u41_)) (by rw [eu41_]; exact fm_thr_1 _ _ _) ?_
            dsimp only
            have Iu41_ : IM g u41_ := by rw [eu41_]; exact IM_ix I _ (by decide)
            have h042_ : (u41_.1 0).toInt = 1 := by rw [eu41_, rdI, if_pos rfl]; decide
            have z43_ : (u41_.1 1).toInt = (u.1 1).toInt := by rw [eu41_]; rfl
            have z44_ : (u41_.1 2).toInt = (u.1 2).toInt := by rw [eu41_]; rfl
            refine okk_f (by decide) ?_
            exact okk_some (⟨Iu41_, (by show ((u41_.1 0).toInt = 1 ∧ ¬ (0 ≤ p1.toInt ∧ p1.toInt ≤ 7)) ∨ ((u41_.1 0).toInt = 2 ∧ (0 ≤ p1.toInt ∧ p1.toInt ≤ 7) ∧ ¬ (0 ≤ p2.toInt ∧ p2.toInt ≤ 20000 ∧ 0 ≤ p3.toInt ∧ p3.toInt ≤ 100000 ∧ 0 ≤ p4.toInt ∧ p4.toInt ≤ 100 ∧ 1 ≤ p5.toInt ∧ p5.toInt ≤ 100)) ∨ ((u41_.1 0).toInt = 0 ∧ (0 ≤ p1.toInt ∧ p1.toInt ≤ 7) ∧ (0 ≤ p2.toInt ∧ p2.toInt ≤ 20000 ∧ 0 ≤ p3.toInt ∧ p3.toInt ≤ 100000 ∧ 0 ≤ p4.toInt ∧ p4.toInt ≤ 100 ∧ 1 ≤ p5.toInt ∧ p5.toInt ≤ 100)); omega)⟩)
      · refine okk_t (by decide) ?_
        unfold fm_rule_48
        refine okk_isKind (fun b45_ => ?_) (fun b45_ => ?_)
        · refine okk_t (by decide) ?_
          unfold fm_rule_63
          obtain ⟨u46_, eu46_⟩ : ∃ y, y = g_sI u 0 (2 : Int32) := ⟨_, rfl⟩
          refine okk_bs (v := ((1 : Int32), u46_)) (by rw [eu46_]; exact fm_thr_2 _ _) ?_
          dsimp only
          have Iu46_ : IM g u46_ := by rw [eu46_]; exact IM_ix I _ (by decide)
          have h047_ : (u46_.1 0).toInt = 2 := by rw [eu46_, rdI, if_pos rfl]; decide
          have z48_ : (u46_.1 1).toInt = (u.1 1).toInt := by rw [eu46_]; rfl
          have z49_ : (u46_.1 2).toInt = (u.1 2).toInt := by rw [eu46_]; rfl
          refine okk_f (by decide) ?_
          exact okk_some (⟨Iu46_, (by show ((u46_.1 0).toInt = 1 ∧ ¬ (0 ≤ p1.toInt ∧ p1.toInt ≤ 7)) ∨ ((u46_.1 0).toInt = 2 ∧ (0 ≤ p1.toInt ∧ p1.toInt ≤ 7) ∧ ¬ (0 ≤ p2.toInt ∧ p2.toInt ≤ 20000 ∧ 0 ≤ p3.toInt ∧ p3.toInt ≤ 100000 ∧ 0 ≤ p4.toInt ∧ p4.toInt ≤ 100 ∧ 1 ≤ p5.toInt ∧ p5.toInt ≤ 100)) ∨ ((u46_.1 0).toInt = 0 ∧ (0 ≤ p1.toInt ∧ p1.toInt ≤ 7) ∧ (0 ≤ p2.toInt ∧ p2.toInt ≤ 20000 ∧ 0 ≤ p3.toInt ∧ p3.toInt ≤ 100000 ∧ 0 ≤ p4.toInt ∧ p4.toInt ≤ 100 ∧ 1 ≤ p5.toInt ∧ p5.toInt ≤ 100)); omega)⟩)
        · refine okk_f (by decide) ?_
          unfold fm_rule_63
          obtain ⟨u50_, eu50_⟩ : ∃ y, y = g_sI u 0 (1 : Int32) := ⟨_, rfl⟩
          refine okk_bs (v := ((1 : Int32), u50_)) (by rw [eu50_]; exact fm_thr_1 _ _ _) ?_
          dsimp only
          have Iu50_ : IM g u50_ := by rw [eu50_]; exact IM_ix I _ (by decide)
          have h051_ : (u50_.1 0).toInt = 1 := by rw [eu50_, rdI, if_pos rfl]; decide
          have z52_ : (u50_.1 1).toInt = (u.1 1).toInt := by rw [eu50_]; rfl
          have z53_ : (u50_.1 2).toInt = (u.1 2).toInt := by rw [eu50_]; rfl
          refine okk_f (by decide) ?_
          exact okk_some (⟨Iu50_, (by show ((u50_.1 0).toInt = 1 ∧ ¬ (0 ≤ p1.toInt ∧ p1.toInt ≤ 7)) ∨ ((u50_.1 0).toInt = 2 ∧ (0 ≤ p1.toInt ∧ p1.toInt ≤ 7) ∧ ¬ (0 ≤ p2.toInt ∧ p2.toInt ≤ 20000 ∧ 0 ≤ p3.toInt ∧ p3.toInt ≤ 100000 ∧ 0 ≤ p4.toInt ∧ p4.toInt ≤ 100 ∧ 1 ≤ p5.toInt ∧ p5.toInt ≤ 100)) ∨ ((u50_.1 0).toInt = 0 ∧ (0 ≤ p1.toInt ∧ p1.toInt ≤ 7) ∧ (0 ≤ p2.toInt ∧ p2.toInt ≤ 20000 ∧ 0 ≤ p3.toInt ∧ p3.toInt ≤ 100000 ∧ 0 ≤ p4.toInt ∧ p4.toInt ≤ 100 ∧ 1 ≤ p5.toInt ∧ p5.toInt ≤ 100)); omega)⟩)
    · refine okk_t (by decide) ?_
      unfold fm_rule_48
      refine okk_isKind (fun b54_ => ?_) (fun b54_ => ?_)
      · refine okk_t (by decide) ?_
        unfold fm_rule_63
        obtain ⟨u55_, eu55_⟩ : ∃ y, y = g_sI u 0 (2 : Int32) := ⟨_, rfl⟩
        refine okk_bs (v := ((1 : Int32), u55_)) (by rw [eu55_]; exact fm_thr_2 _ _) ?_
        dsimp only
        have Iu55_ : IM g u55_ := by rw [eu55_]; exact IM_ix I _ (by decide)
        have h056_ : (u55_.1 0).toInt = 2 := by rw [eu55_, rdI, if_pos rfl]; decide
        have z57_ : (u55_.1 1).toInt = (u.1 1).toInt := by rw [eu55_]; rfl
        have z58_ : (u55_.1 2).toInt = (u.1 2).toInt := by rw [eu55_]; rfl
        refine okk_f (by decide) ?_
        exact okk_some (⟨Iu55_, (by show ((u55_.1 0).toInt = 1 ∧ ¬ (0 ≤ p1.toInt ∧ p1.toInt ≤ 7)) ∨ ((u55_.1 0).toInt = 2 ∧ (0 ≤ p1.toInt ∧ p1.toInt ≤ 7) ∧ ¬ (0 ≤ p2.toInt ∧ p2.toInt ≤ 20000 ∧ 0 ≤ p3.toInt ∧ p3.toInt ≤ 100000 ∧ 0 ≤ p4.toInt ∧ p4.toInt ≤ 100 ∧ 1 ≤ p5.toInt ∧ p5.toInt ≤ 100)) ∨ ((u55_.1 0).toInt = 0 ∧ (0 ≤ p1.toInt ∧ p1.toInt ≤ 7) ∧ (0 ≤ p2.toInt ∧ p2.toInt ≤ 20000 ∧ 0 ≤ p3.toInt ∧ p3.toInt ≤ 100000 ∧ 0 ≤ p4.toInt ∧ p4.toInt ≤ 100 ∧ 1 ≤ p5.toInt ∧ p5.toInt ≤ 100)); omega)⟩)
      · refine okk_f (by decide) ?_
        unfold fm_rule_63
        obtain ⟨u59_, eu59_⟩ : ∃ y, y = g_sI u 0 (1 : Int32) := ⟨_, rfl⟩
        refine okk_bs (v := ((1 : Int32), u59_)) (by rw [eu59_]; exact fm_thr_1 _ _ _) ?_
        dsimp only
        have Iu59_ : IM g u59_ := by rw [eu59_]; exact IM_ix I _ (by decide)
        have h060_ : (u59_.1 0).toInt = 1 := by rw [eu59_, rdI, if_pos rfl]; decide
        have z61_ : (u59_.1 1).toInt = (u.1 1).toInt := by rw [eu59_]; rfl
        have z62_ : (u59_.1 2).toInt = (u.1 2).toInt := by rw [eu59_]; rfl
        refine okk_f (by decide) ?_
        exact okk_some (⟨Iu59_, (by show ((u59_.1 0).toInt = 1 ∧ ¬ (0 ≤ p1.toInt ∧ p1.toInt ≤ 7)) ∨ ((u59_.1 0).toInt = 2 ∧ (0 ≤ p1.toInt ∧ p1.toInt ≤ 7) ∧ ¬ (0 ≤ p2.toInt ∧ p2.toInt ≤ 20000 ∧ 0 ≤ p3.toInt ∧ p3.toInt ≤ 100000 ∧ 0 ≤ p4.toInt ∧ p4.toInt ≤ 100 ∧ 1 ≤ p5.toInt ∧ p5.toInt ≤ 100)) ∨ ((u59_.1 0).toInt = 0 ∧ (0 ≤ p1.toInt ∧ p1.toInt ≤ 7) ∧ (0 ≤ p2.toInt ∧ p2.toInt ≤ 20000 ∧ 0 ≤ p3.toInt ∧ p3.toInt ≤ 100000 ∧ 0 ≤ p4.toInt ∧ p4.toInt ≤ 100 ∧ 1 ≤ p5.toInt ∧ p5.toInt ≤ 100)); omega)⟩)
  · refine okk_t (by decide) ?_
    unfold fm_rule_48
    refine okk_isKind (fun b63_ => ?_) (fun b63_ => ?_)
    · refine okk_t (by decide) ?_
      unfold fm_rule_63
      obtain ⟨u64_, eu64_⟩ : ∃ y, y = g_sI u 0 (2 : Int32) := ⟨_, rfl⟩
      refine okk_bs (v := ((1 : Int32), u64_)) (by rw [eu64_]; exact fm_thr_2 _ _) ?_
      dsimp only
      have Iu64_ : IM g u64_ := by rw [eu64_]; exact IM_ix I _ (by decide)
      have h065_ : (u64_.1 0).toInt = 2 := by rw [eu64_, rdI, if_pos rfl]; decide
      have z66_ : (u64_.1 1).toInt = (u.1 1).toInt := by rw [eu64_]; rfl
      have z67_ : (u64_.1 2).toInt = (u.1 2).toInt := by rw [eu64_]; rfl
      refine okk_f (by decide) ?_
      exact okk_some (⟨Iu64_, (by show ((u64_.1 0).toInt = 1 ∧ ¬ (0 ≤ p1.toInt ∧ p1.toInt ≤ 7)) ∨ ((u64_.1 0).toInt = 2 ∧ (0 ≤ p1.toInt ∧ p1.toInt ≤ 7) ∧ ¬ (0 ≤ p2.toInt ∧ p2.toInt ≤ 20000 ∧ 0 ≤ p3.toInt ∧ p3.toInt ≤ 100000 ∧ 0 ≤ p4.toInt ∧ p4.toInt ≤ 100 ∧ 1 ≤ p5.toInt ∧ p5.toInt ≤ 100)) ∨ ((u64_.1 0).toInt = 0 ∧ (0 ≤ p1.toInt ∧ p1.toInt ≤ 7) ∧ (0 ≤ p2.toInt ∧ p2.toInt ≤ 20000 ∧ 0 ≤ p3.toInt ∧ p3.toInt ≤ 100000 ∧ 0 ≤ p4.toInt ∧ p4.toInt ≤ 100 ∧ 1 ≤ p5.toInt ∧ p5.toInt ≤ 100)); omega)⟩)
    · refine okk_f (by decide) ?_
      unfold fm_rule_63
      obtain ⟨u68_, eu68_⟩ : ∃ y, y = g_sI u 0 (1 : Int32) := ⟨_, rfl⟩
      refine okk_bs (v := ((1 : Int32), u68_)) (by rw [eu68_]; exact fm_thr_1 _ _ _) ?_
      dsimp only
      have Iu68_ : IM g u68_ := by rw [eu68_]; exact IM_ix I _ (by decide)
      have h069_ : (u68_.1 0).toInt = 1 := by rw [eu68_, rdI, if_pos rfl]; decide
      have z70_ : (u68_.1 1).toInt = (u.1 1).toInt := by rw [eu68_]; rfl
      have z71_ : (u68_.1 2).toInt = (u.1 2).toInt := by rw [eu68_]; rfl
      refine okk_f (by decide) ?_
      exact okk_some (⟨Iu68_, (by show ((u68_.1 0).toInt = 1 ∧ ¬ (0 ≤ p1.toInt ∧ p1.toInt ≤ 7)) ∨ ((u68_.1 0).toInt = 2 ∧ (0 ≤ p1.toInt ∧ p1.toInt ≤ 7) ∧ ¬ (0 ≤ p2.toInt ∧ p2.toInt ≤ 20000 ∧ 0 ≤ p3.toInt ∧ p3.toInt ≤ 100000 ∧ 0 ≤ p4.toInt ∧ p4.toInt ≤ 100 ∧ 1 ≤ p5.toInt ∧ p5.toInt ≤ 100)) ∨ ((u68_.1 0).toInt = 0 ∧ (0 ≤ p1.toInt ∧ p1.toInt ≤ 7) ∧ (0 ≤ p2.toInt ∧ p2.toInt ≤ 20000 ∧ 0 ≤ p3.toInt ∧ p3.toInt ≤ 100000 ∧ 0 ≤ p4.toInt ∧ p4.toInt ≤ 100 ∧ 1 ≤ p5.toInt ∧ p5.toInt ≤ 100)); omega)⟩)
