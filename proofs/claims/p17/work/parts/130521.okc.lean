set_option maxHeartbeats 4000000 in
theorem okk_fcA_countHoaxes_4 {g : Nat → Int32} {u : g_S} (I : IC g u) : ∀ (n : Nat) (x1 : Int32) (x2 : Int32), 0 ≤ x2.toInt → x2.toInt ≤ 120 → 121 ≤ (n : Int) + x2.toInt → okk (fcA_countHoaxes_4 u n x1 x2) (fun r => True) := by
  intro n
  induction n with
  | zero =>
    intro x1 x2 h0 h1 hf
    exfalso; omega
  | succ n ih =>
    intro x1 x2 h0 h1 hf
    rw [fcA_countHoaxes_4_s]
    have z1_ := IC_s I
    refine okk_le (fun c2_ c2_I => ?_) (fun c2_ c2_I => ?_)
    · exact okk_some (trivial)
    · refine okk_bi (okk_fcA_isHoax I (by omega) (by omega)) (fun v3_ hv3_ => ?_)
      have p4_ := hv3_
      try have t6_ : (0 : Int32).toInt = (0 : Int) := (by decide : (0 : Int32).toInt = 0)
      refine okk_eq (fun c5_ c5_I => ?_) (fun c5_ c5_I => ?_)
      · have t7_ : (x2 + (1 : Int32)).toInt = (x2.toInt + (1 : Int)) := (oi_add (a := x2) (b := (1 : Int32)) rfl (by decide : (1 : Int32).toInt = 1) (by omega) (by omega))
        exact ih x1 (x2 + (1 : Int32)) (by omega) (by omega) (by omega)
      · have t8_ : (x2 + (1 : Int32)).toInt = (x2.toInt + (1 : Int)) := (oi_add (a := x2) (b := (1 : Int32)) rfl (by decide : (1 : Int32).toInt = 1) (by omega) (by omega))
        exact ih (x1 + (1 : Int32)) (x2 + (1 : Int32)) (by omega) (by omega) (by omega)
set_option maxHeartbeats 4000000 in
theorem okk_fcA_countHoaxes {g : Nat → Int32} {u : g_S} (I : IC g u) : okk (fcA_countHoaxes u) (fun r => True) := by
  unfold fcA_countHoaxes
  have z1_ := IC_s I
  have t2_ : (0 : Int32).toInt = (0 : Int) := (by decide : (0 : Int32).toInt = 0)
  exact okk_fcA_countHoaxes_4 I 200 (0 : Int32) (0 : Int32) (by omega) (by omega) (by omega)
set_option maxHeartbeats 4000000 in
theorem okk_fcE_begin {g : Nat → Int32} {u : g_S} (I : IC g u) {p1 : Int32} {p2 : Int32} (h0 : (u.1 1).toInt ≤ 59) (h1 : 0 ≤ p1.toInt) (h2 : p1.toInt ≤ 7) (h3 : 0 ≤ p2.toInt) (h4 : p2.toInt ≤ 120) : okk (fcE_begin u p1 p2) (fun r => IC g r.2 ∧ (r.1.toInt = (u.1 1).toInt) ∧ ((r.2.1 0).toInt = (u.1 0).toInt) ∧ ((r.2.1 1).toInt = (u.1 1).toInt + 1)) := by
  unfold fcE_begin
  have z1_ := IC_s I
  refine okk_ck (vp_I (by omega) (by omega)) ?_
  have t3_ : (0 : Int32).toInt = (0 : Int) := (by decide : (0 : Int32).toInt = 0)
  refine okk_gl (fun u12_ eu12_ => ?_)
  have Iu12_ : IC g u12_ := by rw [eu12_]; exact IC_w17 I _ _ (IC_f I _ (Or.inr (by have := cl_I (x := (u.1 1)) (by omega); omega)))
  have z4_ : (u12_.1 0).toInt = (u.1 0).toInt := by rw [eu12_]; rfl
  have z5_ : (u12_.1 1).toInt = (u.1 1).toInt := by rw [eu12_]; rfl
  refine okk_ck (vp_I (by omega) (by omega)) ?_
  refine okk_gl (fun u26_ eu26_ => ?_)
  have Iu26_ : IC g u26_ := by rw [eu26_]; exact IC_wx Iu12_ 18 _ _ rfl rfl (by decide)
  have z7_ : (u26_.1 0).toInt = (u12_.1 0).toInt := by rw [eu26_]; rfl
  have z8_ : (u26_.1 1).toInt = (u12_.1 1).toInt := by rw [eu26_]; rfl
  refine okk_ck (vp_I (by omega) (by omega)) ?_
  refine okk_gl (fun u39_ eu39_ => ?_)
  have Iu39_ : IC g u39_ := by rw [eu39_]; exact IC_w19 Iu26_ _ _ (by omega) (by omega)
  have z10_ : (u39_.1 0).toInt = (u26_.1 0).toInt := by rw [eu39_]; rfl
  have z11_ : (u39_.1 1).toInt = (u26_.1 1).toInt := by rw [eu39_]; rfl
  refine okk_ck (vp_I (by omega) (by omega)) ?_
  have t13_ : (-1 : Int32).toInt = (-1 : Int) := (by decide : (-1 : Int32).toInt = -1)
  refine okk_gl (fun u412_ eu412_ => ?_)
  have Iu412_ : IC g u412_ := by rw [eu412_]; exact IC_v20 Iu39_ _ _ (by omega) (by omega)
  have z14_ : (u412_.1 0).toInt = (u39_.1 0).toInt := by rw [eu412_]; rfl
  have z15_ : (u412_.1 1).toInt = (u39_.1 1).toInt := by rw [eu412_]; rfl
  have t17_ : ((u412_.1 1) + (1 : Int32)).toInt = ((u412_.1 1).toInt + (1 : Int)) := (oi_add (a := (u412_.1 1)) (b := (1 : Int32)) rfl (by decide : (1 : Int32).toInt = 1) (by omega) (by omega))
  refine okk_gl (fun u516_ eu516_ => ?_)
  have Iu516_ : IC g u516_ := by rw [eu516_]; exact IC_i1 Iu412_ _ (by omega) (by omega)
  have z18_ : (u516_.1 0).toInt = (u412_.1 0).toInt := by rw [eu516_]; rfl
  have z19_ : (u516_.1 1).toInt = ((u412_.1 1) + (1 : Int32)).toInt := by rw [eu516_]; rfl
  try have t20_ : ((u516_.1 1) - (1 : Int32)).toInt = ((u516_.1 1).toInt - (1 : Int)) := (oi_sub (a := (u516_.1 1)) (b := (1 : Int32)) rfl (by decide : (1 : Int32).toInt = 1) (by omega) (by omega))
  exact okk_some (⟨Iu516_, (by show ((u516_.1 1) - (1 : Int32)).toInt = (u.1 1).toInt; omega), (by show (u516_.1 0).toInt = (u.1 0).toInt; omega), (by show (u516_.1 1).toInt = (u.1 1).toInt + 1; omega)⟩)
set_option maxHeartbeats 4000000 in
theorem okk_fcE_isWatchedFor {g : Nat → Int32} {u : g_S} (I : IC g u) {p1 : Int32} {p2 : Int32} (h0 : 0 ≤ p1.toInt) (h1 : p1.toInt ≤ 59) : okk (fcE_isWatchedFor u p1 p2) (fun r => (r.toInt = 0 ∨ 0 ≤ (u.2 20 p1.toNatClampNeg).toInt)) := by
  unfold fcE_isWatchedFor
  have z1_ := IC_s I
  refine okk_ck (vp_I (by omega) (by omega)) ?_
  try have t3_ : (0 : Int32).toInt = (0 : Int) := (by decide : (0 : Int32).toInt = 0)
  refine okk_ne (fun c2_ c2_I => ?_) (fun c2_ c2_I => ?_)
  · exact okk_some ((by show (0 : Int32).toInt = 0 ∨ 0 ≤ (u.2 20 p1.toNatClampNeg).toInt; omega))
  · refine okk_ck (vp_I (by omega) (by omega)) ?_
    refine okk_ne (fun c4_ c4_I => ?_) (fun c4_ c4_I => ?_)
    · exact okk_some ((by show (0 : Int32).toInt = 0 ∨ 0 ≤ (u.2 20 p1.toNatClampNeg).toInt; omega))
    · refine okk_ck (vp_I (by omega) (by omega)) ?_
      have r6_ := IC_r20 I p1.toNatClampNeg
      try have t7_ : (-1 : Int32).toInt = (-1 : Int) := (by decide : (-1 : Int32).toInt = -1)
      refine okk_eq (fun c5_ c5_I => ?_) (fun c5_ c5_I => ?_)
      · exact okk_some ((by show (0 : Int32).toInt = 0 ∨ 0 ≤ (u.2 20 p1.toNatClampNeg).toInt; omega))
      · try have t8_ : (1 : Int32).toInt = (1 : Int) := (by decide : (1 : Int32).toInt = 1)
        exact okk_some ((by show (1 : Int32).toInt = 0 ∨ 0 ≤ (u.2 20 p1.toNatClampNeg).toInt; omega))
set_option maxHeartbeats 4000000 in
theorem okk_fcE_countOpen_4 {g : Nat → Int32} {u : g_S} (I : IC g u) : ∀ (n : Nat) (x1 : Int32) (x2 : Int32), 0 ≤ x2.toInt → x2.toInt ≤ 60 → 61 ≤ (n : Int) + x2.toInt → okk (fcE_countOpen_4 u n x1 x2) (fun r => True) := by
  intro n
  induction n with
  | zero =>
    intro x1 x2 h0 h1 hf
    exfalso; omega
  | succ n ih =>
    intro x1 x2 h0 h1 hf
    rw [fcE_countOpen_4_s]
    have z1_ := IC_s I
    refine okk_le (fun c2_ c2_I => ?_) (fun c2_ c2_I => ?_)
    · exact okk_some (trivial)
    · refine okk_ck (vp_I (by omega) (by omega)) ?_
      try have t4_ : (0 : Int32).toInt = (0 : Int) := (by decide : (0 : Int32).toInt = 0)
      refine okk_ne (fun c3_ c3_I => ?_) (fun c3_ c3_I => ?_)
      · have t5_ : (x2 + (1 : Int32)).toInt = (x2.toInt + (1 : Int)) := (oi_add (a := x2) (b := (1 : Int32)) rfl (by decide : (1 : Int32).toInt = 1) (by omega) (by omega))
        exact ih x1 (x2 + (1 : Int32)) (by omega) (by omega) (by omega)
      · have t6_ : (x2 + (1 : Int32)).toInt = (x2.toInt + (1 : Int)) := (oi_add (a := x2) (b := (1 : Int32)) rfl (by decide : (1 : Int32).toInt = 1) (by omega) (by omega))
        exact ih (x1 + (1 : Int32)) (x2 + (1 : Int32)) (by omega) (by omega) (by omega)
set_option maxHeartbeats 4000000 in
theorem okk_fcE_countOpen {g : Nat → Int32} {u : g_S} (I : IC g u) : okk (fcE_countOpen u) (fun r => True) := by
  unfold fcE_countOpen
  have z1_ := IC_s I
  have t2_ : (0 : Int32).toInt = (0 : Int) := (by decide : (0 : Int32).toInt = 0)
  exact okk_fcE_countOpen_4 I 200 (0 : Int32) (0 : Int32) (by omega) (by omega) (by omega)
set_option maxHeartbeats 4000000 in
theorem okk_fcJ_eastOf {p0 : Int32} : okk (fcJ_eastOf p0) (fun r => True) := by
  unfold fcJ_eastOf
  exact okk_some (trivial)
set_option maxHeartbeats 4000000 in
theorem okk_fcJ_northOf {p0 : Int32} : okk (fcJ_northOf p0) (fun r => True) := by
  unfold fcJ_northOf
  exact okk_some (trivial)
set_option maxHeartbeats 4000000 in
theorem okk_fcJ_squareBetween {p0 : Int32} {p1 : Int32} : okk (fcJ_squareBetween p0 p1) (fun r => True) := by
  unfold fcJ_squareBetween
  refine okk_bi (okk_fcJ_eastOf ) (fun v1_ hv1_ => ?_)
  have p2_ := hv1_
  refine okk_bi (okk_fcJ_eastOf ) (fun v3_ hv3_ => ?_)
  have p4_ := hv3_
  refine okk_gl (fun w35_ ew35_ => ?_)
  refine okk_bi (okk_fcJ_northOf ) (fun v6_ hv6_ => ?_)
  have p7_ := hv6_
  refine okk_bi (okk_fcJ_northOf ) (fun v8_ hv8_ => ?_)
  have p9_ := hv8_
  refine okk_gl (fun w610_ ew610_ => ?_)
  exact okk_some (trivial)
set_option maxHeartbeats 4000000 in
theorem okk_fcR_isNearPiece {p0 : Int32} {p1 : Int32} {p2 : Int32} : okk (fcR_isNearPiece p0 p1 p2) (fun r => True) := by
  unfold fcR_isNearPiece
  refine okk_bi (okk_fcJ_eastOf ) (fun v1_ hv1_ => ?_)
  have p2_ := hv1_
  refine okk_bi (okk_fcJ_eastOf ) (fun v3_ hv3_ => ?_)
  have p4_ := hv3_
  refine okk_gl (fun w35_ ew35_ => ?_)
  refine okk_bi (okk_fcJ_northOf ) (fun v6_ hv6_ => ?_)
  have p7_ := hv6_
  refine okk_bi (okk_fcJ_northOf ) (fun v8_ hv8_ => ?_)
  have p9_ := hv8_
  refine okk_gl (fun w610_ ew610_ => ?_)
  refine okk_bi (okk_fcJ_eastOf ) (fun v11_ hv11_ => ?_)
  have p12_ := hv11_
  refine okk_bi (okk_fcJ_eastOf ) (fun v13_ hv13_ => ?_)
  have p14_ := hv13_
  refine okk_gl (fun w915_ ew915_ => ?_)
  refine okk_bi (okk_fcJ_northOf ) (fun v16_ hv16_ => ?_)
  have p17_ := hv16_
  refine okk_bi (okk_fcJ_northOf ) (fun v18_ hv18_ => ?_)
  have p19_ := hv18_
  refine okk_gl (fun w1220_ ew1220_ => ?_)
  refine okk_gl (fun w1321_ ew1321_ => ?_)
  refine okk_gl (fun w1422_ ew1422_ => ?_)
  try have t24_ : (0 : Int32).toInt = (0 : Int) := (by decide : (0 : Int32).toInt = 0)
  refine okk_lt (fun c23_ c23_I => ?_) (fun c23_ c23_I => ?_)
  · refine okk_lt (fun c25_ c25_I => ?_) (fun c25_ c25_I => ?_)
    · refine okk_gl (fun w1526_ ew1526_ => ?_)
      refine okk_lt (fun c27_ c27_I => ?_) (fun c27_ c27_I => ?_)
      · exact okk_some (trivial)
      · exact okk_some (trivial)
    · refine okk_bi (okk_fcJ_squareBetween ) (fun v28_ hv28_ => ?_)
      have p29_ := hv28_
      refine okk_lt (fun c30_ c30_I => ?_) (fun c30_ c30_I => ?_)
      · exact okk_some (trivial)
      · exact okk_some (trivial)
  · refine okk_bi (okk_fcJ_squareBetween ) (fun v31_ hv31_ => ?_)
    have p32_ := hv31_
    refine okk_lt (fun c33_ c33_I => ?_) (fun c33_ c33_I => ?_)
    · exact okk_some (trivial)
    · exact okk_some (trivial)
set_option maxHeartbeats 4000000 in
theorem okk_fcR_isNear_9 {g : Nat → Int32} {u : g_S} (I : IC g u) : ∀ (n : Nat) (x3 : Int32) (x4 : Int32) (x5 : Int32) (x6 : Int32), 0 ≤ x6.toInt → x6.toInt ≤ 7 → 0 ≤ x5.toInt → x5.toInt ≤ 56 → x3.toInt ≤ 7 → 8 ≤ (n : Int) + x6.toInt → okk (fcR_isNear_9 u n x3 x4 x5 x6) (fun r => ((r = 0 ∨ r = 1) ∧ (r.toInt = 0 ∨ r.toInt = 1))) := by
  intro n
  induction n with
  | zero =>
    intro x3 x4 x5 x6 h0 h1 h2 h3 h4 hf
    exfalso; omega
  | succ n ih =>
    intro x3 x4 x5 x6 h0 h1 h2 h3 h4 hf
    rw [fcR_isNear_9_s]
    have z1_ := IC_s I
    refine okk_le (fun c2_ c2_I => ?_) (fun c2_ c2_I => ?_)
    · try have t3_ : (0 : Int32).toInt = (0 : Int) := (by decide : (0 : Int32).toInt = 0)
      exact okk_some (⟨Or.inl rfl, by omega⟩)
    · have t4_ : (x5 + x6).toInt = (x5.toInt + x6.toInt) := (oi_add (a := x5) (b := x6) rfl rfl (by omega) (by omega))
      refine okk_ck (vp_I (by omega) (by omega)) ?_
      have t5_ : ((x5 + x6) + (1 : Int32)).toInt = ((x5.toInt + x6.toInt) + (1 : Int)) := (oi_add (a := (x5 + x6)) (b := (1 : Int32)) (oi_add (a := x5) (b := x6) rfl rfl (by omega) (by omega)) (by decide : (1 : Int32).toInt = 1) (by omega) (by omega))
      refine okk_ck (vp_I (by omega) (by omega)) ?_
      refine okk_bi (okk_fcR_isNearPiece ) (fun v6_ hv6_ => ?_)
      have p7_ := hv6_
      try have t9_ : (0 : Int32).toInt = (0 : Int) := (by decide : (0 : Int32).toInt = 0)
      refine okk_eq (fun c8_ c8_I => ?_) (fun c8_ c8_I => ?_)
      · have t10_ : (x6 + (1 : Int32)).toInt = (x6.toInt + (1 : Int)) := (oi_add (a := x6) (b := (1 : Int32)) rfl (by decide : (1 : Int32).toInt = 1) (by omega) (by omega))
        exact ih x3 x4 x5 (x6 + (1 : Int32)) (by omega) (by omega) (by omega) (by omega) (by omega) (by omega)
      · try have t11_ : (1 : Int32).toInt = (1 : Int) := (by decide : (1 : Int32).toInt = 1)
        exact okk_some (⟨Or.inr rfl, by omega⟩)
set_option maxHeartbeats 4000000 in
theorem okk_fcR_isNear {g : Nat → Int32} {u : g_S} (I : IC g u) {p1 : Int32} {p2 : Int32} {p3 : Int32} {p4 : Int32} (h0 : 0 ≤ p1.toInt) (h1 : p1.toInt ≤ 7) (h2 : 0 ≤ p2.toInt) (h3 : p2.toInt ≤ 7) (h4 : p3.toInt ≤ 7) : okk (fcR_isNear u p1 p2 p3 p4) (fun r => ((r = 0 ∨ r = 1) ∧ (r.toInt = 0 ∨ r.toInt = 1))) := by
  unfold fcR_isNear
  have z1_ := IC_s I
  try have t3_ : (p1 * (8 : Int32)).toInt = (p1.toInt * (8 : Int)) := (oi_mul (a := p1) (b := (8 : Int32)) rfl (by decide : (8 : Int32).toInt = 8) (by omega) (by omega))
  refine okk_gl (fun w12_ ew12_ => ?_)
  have t4_ : w12_.toInt = (p1 * (8 : Int32)).toInt := by rw [ew12_]
  exact okk_fcR_isNear_9 I 200 p3 p4 w12_ p2 (by omega) (by omega) (by omega) (by omega) (by omega) (by omega)
set_option maxHeartbeats 4000000 in
theorem okk_fcU_weigh_8 {g : Nat → Int32} {u : g_S} (I : IC g u) : ∀ (n : Nat) (x1 : Int32) (x3 : Int32) (x4 : Int32) (x5 : Int32), 0 ≤ x5.toInt → x5.toInt ≤ 32 → 0 ≤ x1.toInt → x1.toInt ≤ 7 → 33 ≤ (n : Int) + x5.toInt → okk (fcU_weigh_8 u n x1 x3 x4 x5) (fun r => True) := by
  intro n
  induction n with
  | zero =>
    intro x1 x3 x4 x5 h0 h1 h2 h3 hf
    exfalso; omega
  | succ n ih =>
    intro x1 x3 x4 x5 h0 h1 h2 h3 hf
    rw [fcU_weigh_8_s]
    have z1_ := IC_s I
    try have t3_ : (32 : Int32).toInt = (32 : Int) := (by decide : (32 : Int32).toInt = 32)
    refine okk_le (fun c2_ c2_I => ?_) (fun c2_ c2_I => ?_)
    · exact okk_some (trivial)
    · try have t5_ : (0 : Int32).toInt = (0 : Int) := (by decide : (0 : Int32).toInt = 0)
      refine okk_eq (fun c4_ c4_I => ?_) (fun c4_ c4_I => ?_)
      · exact okk_some (trivial)
      · try have t7_ : (1 : Int32).toInt = (1 : Int) := (by decide : (1 : Int32).toInt = 1)
        refine okk_ne (fun c6_ c6_I => ?_) (fun c6_ c6_I => ?_)
        · refine okk_gl (fun w18_ ew18_ => ?_)
          have t9_ : w18_.toInt = ((x4.toUInt32 >>> (Int32.toUInt32 (1 : Int32) &&& Int32.toUInt32 31)).toInt32).toInt := by rw [ew18_]
          have t10_ : (x5 + (1 : Int32)).toInt = (x5.toInt + (1 : Int)) := (oi_add (a := x5) (b := (1 : Int32)) rfl (by decide : (1 : Int32).toInt = 1) (by omega) (by omega))
          exact ih x1 x3 w18_ (x5 + (1 : Int32)) (by omega) (by omega) (by omega) (by omega) (by omega)
        · have t11_ : ((x1 * (32 : Int32)) + x5).toInt = ((x1.toInt * (32 : Int)) + x5.toInt) := (oi_add (a := (x1 * (32 : Int32))) (b := x5) (oi_mul (a := x1) (b := (32 : Int32)) rfl (by decide : (32 : Int32).toInt = 32) (by omega) (by omega)) rfl (by omega) (by omega))
          refine okk_ck (vp_I (by omega) (by omega)) ?_
          try have t13_ : (x3 + (u.2 4 ((x1 * (32 : Int32)) + x5).toNatClampNeg)).toInt = (x3.toInt + (u.2 4 ((x1 * (32 : Int32)) + x5).toNatClampNeg).toInt) := (oi_add (a := x3) (b := (u.2 4 ((x1 * (32 : Int32)) + x5).toNatClampNeg)) rfl rfl (by omega) (by omega))
          refine okk_gl (fun w212_ ew212_ => ?_)
          have t14_ : w212_.toInt = (x3 + (u.2 4 ((x1 * (32 : Int32)) + x5).toNatClampNeg)).toInt := by rw [ew212_]
          refine okk_gl (fun w315_ ew315_ => ?_)
          have t16_ : w315_.toInt = ((x4.toUInt32 >>> (Int32.toUInt32 (1 : Int32) &&& Int32.toUInt32 31)).toInt32).toInt := by rw [ew315_]
          have t17_ : (x5 + (1 : Int32)).toInt = (x5.toInt + (1 : Int)) := (oi_add (a := x5) (b := (1 : Int32)) rfl (by decide : (1 : Int32).toInt = 1) (by omega) (by omega))
          exact ih x1 w212_ w315_ (x5 + (1 : Int32)) (by omega) (by omega) (by omega) (by omega) (by omega)
set_option maxHeartbeats 4000000 in
theorem okk_fcU_weigh {g : Nat → Int32} {u : g_S} (I : IC g u) {p1 : Int32} {p2 : Int32} (h0 : 0 ≤ p1.toInt) (h1 : p1.toInt ≤ 7) : okk (fcU_weigh u p1 p2) (fun r => True) := by
  unfold fcU_weigh
  have z1_ := IC_s I
  have t2_ : (0 : Int32).toInt = (0 : Int) := (by decide : (0 : Int32).toInt = 0)
  exact okk_fcU_weigh_8 I 200 p1 (0 : Int32) p2 (0 : Int32) (by omega) (by omega) (by omega) (by omega) (by omega)
set_option maxHeartbeats 4000000 in
theorem okk_fcU_meetsNeed {g : Nat → Int32} {u : g_S} (I : IC g u) {p1 : Int32} {p2 : Int32} {p3 : Int32} (h0 : 0 ≤ p1.toInt) (h1 : p1.toInt ≤ 7) : okk (fcU_meetsNeed u p1 p2 p3) (fun r => True) := by
  unfold fcU_meetsNeed
  have z1_ := IC_s I
  refine okk_ck (vp_I (by omega) (by omega)) ?_
  refine okk_ck (vp_I (by omega) (by omega)) ?_
  try have t3_ : (p2 * (u.2 3 p1.toNatClampNeg)).toInt = (p2.toInt * (u.2 3 p1.toNatClampNeg).toInt) := (oi_mul (a := p2) (b := (u.2 3 p1.toNatClampNeg)) rfl rfl (by omega) (by omega))
  try have t4_ : ((u.2 2 p1.toNatClampNeg) * p3).toInt = ((u.2 2 p1.toNatClampNeg).toInt * p3.toInt) := (oi_mul (a := (u.2 2 p1.toNatClampNeg)) (b := p3) rfl rfl (by omega) (by omega))
  refine okk_lt (fun c2_ c2_I => ?_) (fun c2_ c2_I => ?_)
  · exact okk_some (trivial)
  · exact okk_some (trivial)
set_option maxHeartbeats 4000000 in
theorem okk_fcJ_isInOpenEvent {g : Nat → Int32} {u : g_S} (I : IC g u) {p1 : Int32} (h0 : 0 ≤ p1.toInt) (h1 : p1.toInt ≤ 120) : okk (fcJ_isInOpenEvent u p1) (fun r => True) := by
  unfold fcJ_isInOpenEvent
  have z1_ := IC_s I
  refine okk_ck (vp_I (by omega) (by omega)) ?_
  have r2_ := IC_r13 I p1.toNatClampNeg
  refine okk_ck (vp_I (by omega) (by omega)) ?_
  try have t4_ : (0 : Int32).toInt = (0 : Int) := (by decide : (0 : Int32).toInt = 0)
  refine okk_ne (fun c3_ c3_I => ?_) (fun c3_ c3_I => ?_)
  · exact okk_some (trivial)
  · exact okk_some (trivial)
set_option maxHeartbeats 4000000 in
theorem okk_fcJ_canBeReason {g : Nat → Int32} {u : g_S} (I : IC g u) {p1 : Int32} (h0 : 0 ≤ p1.toInt) (h1 : p1.toInt ≤ 120) : okk (fcJ_canBeReason u p1) (fun r => True) := by
  unfold fcJ_canBeReason
  have z1_ := IC_s I
  refine okk_bi (okk_fcA_isHoax I (by omega) (by omega)) (fun v2_ hv2_ => ?_)
  have p3_ := hv2_
  try have t5_ : (0 : Int32).toInt = (0 : Int) := (by decide : (0 : Int32).toInt = 0)
  refine okk_ne (fun c4_ c4_I => ?_) (fun c4_ c4_I => ?_)
  · exact okk_some (trivial)
  · refine okk_bi (okk_fcJ_isInOpenEvent I (by omega) (by omega)) (fun v6_ hv6_ => ?_)
    have p7_ := hv6_
    refine okk_eq (fun c8_ c8_I => ?_) (fun c8_ c8_I => ?_)
    · exact okk_some (trivial)
    · exact okk_some (trivial)
set_option maxHeartbeats 4000000 in
theorem okk_fcJ_isWithinSpan {g : Nat → Int32} {u : g_S} (I : IC g u) {p1 : Int32} {p2 : Int32} (h0 : 0 ≤ p1.toInt) (h1 : p1.toInt ≤ 120) (h2 : 0 ≤ p2.toInt) (h3 : p2.toInt ≤ 120) : okk (fcJ_isWithinSpan u p1 p2) (fun r => True) := by
  unfold fcJ_isWithinSpan
  have z1_ := IC_s I
  refine okk_ck (vp_I (by omega) (by omega)) ?_
  refine okk_ck (vp_I (by omega) (by omega)) ?_
  refine okk_ck (vp_I (by omega) (by omega)) ?_
  have r2_ := IC_r8 I p2.toNatClampNeg
  refine okk_ck (vp_I (by omega) (by omega)) ?_
  try have t4_ : ((u.2 12 p2.toNatClampNeg) - (u.2 12 p1.toNatClampNeg)).toInt = ((u.2 12 p2.toNatClampNeg).toInt - (u.2 12 p1.toNatClampNeg).toInt) := (oi_sub (a := (u.2 12 p2.toNatClampNeg)) (b := (u.2 12 p1.toNatClampNeg)) rfl rfl (by omega) (by omega))
  refine okk_lt (fun c3_ c3_I => ?_) (fun c3_ c3_I => ?_)
  · exact okk_some (trivial)
  · exact okk_some (trivial)
set_option maxHeartbeats 4000000 in
theorem okk_fcJ_latestOfLine_10 {g : Nat → Int32} {u : g_S} (I : IC g u) : ∀ (n : Nat) (x1 : Int32) (x2 : Int32), -1 ≤ x2.toInt → x2.toInt ≤ 119 → 0 ≤ x1.toInt → x1.toInt ≤ 120 → x2.toInt + 2 ≤ (n : Int) → okk (fcJ_latestOfLine_10 u n x1 x2) (fun r => (-1 ≤ r.toInt ∧ r.toInt ≤ 119)) := by
  intro n
  induction n with
  | zero =>
    intro x1 x2 h0 h1 h2 h3 hf
    exfalso; omega
  | succ n ih =>
    intro x1 x2 h0 h1 h2 h3 hf
    rw [fcJ_latestOfLine_10_s]
    have z1_ := IC_s I
    try have t3_ : (0 : Int32).toInt = (0 : Int) := (by decide : (0 : Int32).toInt = 0)
    refine okk_lt (fun c2_ c2_I => ?_) (fun c2_ c2_I => ?_)
    · try have t4_ : (-1 : Int32).toInt = (-1 : Int) := (by decide : (-1 : Int32).toInt = -1)
      exact okk_some ((by show -1 ≤ (-1 : Int32).toInt ∧ (-1 : Int32).toInt ≤ 119; omega))
    · refine okk_ck (vp_I (by omega) (by omega)) ?_
      refine okk_ck (vp_I (by omega) (by omega)) ?_
      refine okk_ne (fun c5_ c5_I => ?_) (fun c5_ c5_I => ?_)
      · have t6_ : (x2 + (-1 : Int32)).toInt = (x2.toInt + (-1 : Int)) := (oi_add (a := x2) (b := (-1 : Int32)) rfl (by decide : (-1 : Int32).toInt = -1) (by omega) (by omega))
        exact ih x1 (x2 + (-1 : Int32)) (by omega) (by omega) (by omega) (by omega) (by omega)
      · refine okk_bi (okk_fcJ_canBeReason I (by omega) (by omega)) (fun v7_ hv7_ => ?_)
        have p8_ := hv7_
        refine okk_eq (fun c9_ c9_I => ?_) (fun c9_ c9_I => ?_)
        · have t10_ : (x2 + (-1 : Int32)).toInt = (x2.toInt + (-1 : Int)) := (oi_add (a := x2) (b := (-1 : Int32)) rfl (by decide : (-1 : Int32).toInt = -1) (by omega) (by omega))
          exact ih x1 (x2 + (-1 : Int32)) (by omega) (by omega) (by omega) (by omega) (by omega)
        · refine okk_bi (okk_fcJ_isWithinSpan I (by omega) (by omega) (by omega) (by omega)) (fun v11_ hv11_ => ?_)
          have p12_ := hv11_
          refine okk_eq (fun c13_ c13_I => ?_) (fun c13_ c13_I => ?_)
          · try have t14_ : (-1 : Int32).toInt = (-1 : Int) := (by decide : (-1 : Int32).toInt = -1)
            exact okk_some ((by show -1 ≤ (-1 : Int32).toInt ∧ (-1 : Int32).toInt ≤ 119; omega))
          · exact okk_some ((by show -1 ≤ x2.toInt ∧ x2.toInt ≤ 119; omega))
set_option maxHeartbeats 4000000 in
theorem okk_fcJ_latestOfLine {g : Nat → Int32} {u : g_S} (I : IC g u) {p1 : Int32} (h0 : 0 ≤ p1.toInt) (h1 : p1.toInt ≤ 120) : okk (fcJ_latestOfLine u p1) (fun r => (-1 ≤ r.toInt ∧ r.toInt ≤ 119)) := by
  unfold fcJ_latestOfLine
  have z1_ := IC_s I
  try have t3_ : ((u.1 0) - (1 : Int32)).toInt = ((u.1 0).toInt - (1 : Int)) := (oi_sub (a := (u.1 0)) (b := (1 : Int32)) rfl (by decide : (1 : Int32).toInt = 1) (by omega) (by omega))
  refine okk_gl (fun w12_ ew12_ => ?_)
  have t4_ : w12_.toInt = ((u.1 0) - (1 : Int32)).toInt := by rw [ew12_]
  exact okk_fcJ_latestOfLine_10 I 200 p1 w12_ (by omega) (by omega) (by omega) (by omega) (by omega)
set_option maxHeartbeats 4000000 in
theorem okk_fcJ_takeReason {g : Nat → Int32} {u : g_S} (I : IC g u) {p1 : Int32} {p2 : Int32} {p3 : Int32} (h0 : 0 ≤ p1.toInt) (h1 : p1.toInt ≤ 120) (h2 : -1 ≤ p2.toInt) (h3 : p2.toInt ≤ 120) : okk (fcJ_takeReason u p1 p2 p3) (fun r => IC g r.2 ∧ ((r.2.1 0).toInt = (u.1 0).toInt) ∧ ((r.2.1 1).toInt = (u.1 1).toInt)) := by
  unfold fcJ_takeReason
  have z1_ := IC_s I
  try have t3_ : (-1 : Int32).toInt = (-1 : Int) := (by decide : (-1 : Int32).toInt = -1)
  refine okk_ne (fun c2_ c2_I => ?_) (fun c2_ c2_I => ?_)
  · refine okk_ck (vp_I (by omega) (by omega)) ?_
    refine okk_gl (fun u14_ eu14_ => ?_)
    have Iu14_ : IC g u14_ := by rw [eu14_]; exact IC_v14 I _ _ (by omega) (by omega)
    have z5_ : (u14_.1 0).toInt = (u.1 0).toInt := by rw [eu14_]; rfl
    have z6_ : (u14_.1 1).toInt = (u.1 1).toInt := by rw [eu14_]; rfl
    refine okk_ck (vp_I (by omega) (by omega)) ?_
    refine okk_gl (fun u27_ eu27_ => ?_)
    have Iu27_ : IC g u27_ := by rw [eu27_]; exact IC_wx Iu14_ 15 _ _ rfl rfl (by decide)
    have z8_ : (u27_.1 0).toInt = (u14_.1 0).toInt := by rw [eu27_]; rfl
    have z9_ : (u27_.1 1).toInt = (u14_.1 1).toInt := by rw [eu27_]; rfl
    try have t10_ : (1 : Int32).toInt = (1 : Int) := (by decide : (1 : Int32).toInt = 1)
    exact okk_some (⟨Iu27_, (by show (u27_.1 0).toInt = (u.1 0).toInt; omega), (by show (u27_.1 1).toInt = (u.1 1).toInt; omega)⟩)
  · try have t11_ : (0 : Int32).toInt = (0 : Int) := (by decide : (0 : Int32).toInt = 0)
    exact okk_some (⟨I, (by show (u.1 0).toInt = (u.1 0).toInt; omega), (by show (u.1 1).toInt = (u.1 1).toInt; omega)⟩)
set_option maxHeartbeats 4000000 in
theorem okk_fcJ_isOnStretch {g : Nat → Int32} {u : g_S} (I : IC g u) {p1 : Int32} {p2 : Int32} (h0 : 0 ≤ p1.toInt) (h1 : p1.toInt ≤ 120) (h2 : 0 ≤ p2.toInt) (h3 : p2.toInt ≤ 59) (h4 : 0 ≤ (u.2 20 p2.toNatClampNeg).toInt) : okk (fcJ_isOnStretch u p1 p2) (fun r => True) := by
  unfold fcJ_isOnStretch
  have z1_ := IC_s I
  refine okk_ck (vp_I (by omega) (by omega)) ?_
  have r3_ := IC_r20 I p2.toNatClampNeg
  refine okk_gl (fun w12_ ew12_ => ?_)
  have t4_ : w12_.toInt = (u.2 20 p2.toNatClampNeg).toInt := by rw [ew12_]
  refine okk_ck (vp_I (by omega) (by omega)) ?_
  refine okk_gl (fun w25_ ew25_ => ?_)
  have t6_ : w25_.toInt = (u.2 9 p1.toNatClampNeg).toInt := by rw [ew25_]
  try have t8_ : (-1 : Int32).toInt = (-1 : Int) := (by decide : (-1 : Int32).toInt = -1)
  refine okk_ne (fun c7_ c7_I => ?_) (fun c7_ c7_I => ?_)
  · refine okk_ck (vp_I (by omega) (by omega)) ?_
    refine okk_ck (vp_I (by omega) (by omega)) ?_
    have r9_ := IC_r21 I p2.toNatClampNeg
    have r10_ := IC_r22 I p2.toNatClampNeg
    refine okk_bi (okk_fcR_isNear I (by omega) (by omega) (by omega) (by omega) (by omega)) (fun v11_ hv11_ => ?_)
    obtain ⟨p12_, p12_I⟩ := hv11_
    refine okk_t p12_ ?_
    exact okk_some (trivial)
  · refine okk_ck (vp_I (by omega) (by omega)) ?_
    refine okk_ne (fun c13_ c13_I => ?_) (fun c13_ c13_I => ?_)
    · exact okk_some (trivial)
    · exact okk_some (trivial)
