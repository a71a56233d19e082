set_option maxHeartbeats 4000000 in
theorem okk_fcA_draft {g : Nat → Int32} {u : g_S} (I : IC g u) {p1 : Int32} {p2 : Int32} {p3 : Int32} {p4 : Int32} {p5 : Int32} {p6 : Int32} (h0 : 0 ≤ p2.toInt) (h1 : p2.toInt ≤ 7) : okk (fcA_draft u p1 p2 p3 p4 p5 p6) (fun r => IC g r.2 ∧ (r.1.toInt = (u.1 0).toInt) ∧ ((r.2.1 0).toInt = (u.1 0).toInt) ∧ ((r.2.1 1).toInt = (u.1 1).toInt)) := by
  unfold fcA_draft
  have z1_ := IC_s I
  refine okk_ck (vp_I (by omega) (by omega)) ?_
  refine okk_gl (fun u12_ eu12_ => ?_)
  have Iu12_ : IC g u12_ := by rw [eu12_]; exact IC_wx I 7 _ _ rfl rfl (by decide)
  have z3_ : (u12_.1 0).toInt = (u.1 0).toInt := by rw [eu12_]; rfl
  have z4_ : (u12_.1 1).toInt = (u.1 1).toInt := by rw [eu12_]; rfl
  refine okk_ck (vp_I (by omega) (by omega)) ?_
  refine okk_gl (fun u25_ eu25_ => ?_)
  have Iu25_ : IC g u25_ := by rw [eu25_]; exact IC_v8 Iu12_ _ _ (by omega) (by omega)
  have z6_ : (u25_.1 0).toInt = (u12_.1 0).toInt := by rw [eu25_]; rfl
  have z7_ : (u25_.1 1).toInt = (u12_.1 1).toInt := by rw [eu25_]; rfl
  refine okk_ck (vp_I (by omega) (by omega)) ?_
  refine okk_gl (fun u38_ eu38_ => ?_)
  have Iu38_ : IC g u38_ := by rw [eu38_]; exact IC_wx Iu25_ 9 _ _ rfl rfl (by decide)
  have z9_ : (u38_.1 0).toInt = (u25_.1 0).toInt := by rw [eu38_]; rfl
  have z10_ : (u38_.1 1).toInt = (u25_.1 1).toInt := by rw [eu38_]; rfl
  refine okk_ck (vp_I (by omega) (by omega)) ?_
  refine okk_gl (fun u411_ eu411_ => ?_)
  have Iu411_ : IC g u411_ := by rw [eu411_]; exact IC_wx Iu38_ 10 _ _ rfl rfl (by decide)
  have z12_ : (u411_.1 0).toInt = (u38_.1 0).toInt := by rw [eu411_]; rfl
  have z13_ : (u411_.1 1).toInt = (u38_.1 1).toInt := by rw [eu411_]; rfl
  refine okk_ck (vp_I (by omega) (by omega)) ?_
  refine okk_gl (fun u514_ eu514_ => ?_)
  have Iu514_ : IC g u514_ := by rw [eu514_]; exact IC_wx Iu411_ 11 _ _ rfl rfl (by decide)
  have z15_ : (u514_.1 0).toInt = (u411_.1 0).toInt := by rw [eu514_]; rfl
  have z16_ : (u514_.1 1).toInt = (u411_.1 1).toInt := by rw [eu514_]; rfl
  refine okk_ck (vp_I (by omega) (by omega)) ?_
  refine okk_gl (fun u617_ eu617_ => ?_)
  have Iu617_ : IC g u617_ := by rw [eu617_]; exact IC_wx Iu514_ 12 _ _ rfl rfl (by decide)
  have z18_ : (u617_.1 0).toInt = (u514_.1 0).toInt := by rw [eu617_]; rfl
  have z19_ : (u617_.1 1).toInt = (u514_.1 1).toInt := by rw [eu617_]; rfl
  refine okk_ck (vp_I (by omega) (by omega)) ?_
  have t21_ : (-1 : Int32).toInt = (-1 : Int) := (by decide : (-1 : Int32).toInt = -1)
  refine okk_gl (fun u720_ eu720_ => ?_)
  have Iu720_ : IC g u720_ := by rw [eu720_]; exact IC_v14 Iu617_ _ _ (by omega) (by omega)
  have z22_ : (u720_.1 0).toInt = (u617_.1 0).toInt := by rw [eu720_]; rfl
  have z23_ : (u720_.1 1).toInt = (u617_.1 1).toInt := by rw [eu720_]; rfl
  refine okk_ck (vp_I (by omega) (by omega)) ?_
  have t25_ : (0 : Int32).toInt = (0 : Int) := (by decide : (0 : Int32).toInt = 0)
  refine okk_gl (fun u824_ eu824_ => ?_)
  have Iu824_ : IC g u824_ := by rw [eu824_]; exact IC_wx Iu720_ 15 _ _ rfl rfl (by decide)
  have z26_ : (u824_.1 0).toInt = (u720_.1 0).toInt := by rw [eu824_]; rfl
  have z27_ : (u824_.1 1).toInt = (u720_.1 1).toInt := by rw [eu824_]; rfl
  refine okk_ck (vp_I (by omega) (by omega)) ?_
  refine okk_gl (fun u928_ eu928_ => ?_)
  have Iu928_ : IC g u928_ := by rw [eu928_]; exact IC_wx Iu824_ 16 _ _ rfl rfl (by decide)
  have z29_ : (u928_.1 0).toInt = (u824_.1 0).toInt := by rw [eu928_]; rfl
  have z30_ : (u928_.1 1).toInt = (u824_.1 1).toInt := by rw [eu928_]; rfl
  exact okk_some (⟨Iu928_, (by show (u928_.1 0).toInt = (u.1 0).toInt; omega), (by show (u928_.1 0).toInt = (u.1 0).toInt; omega), (by show (u928_.1 1).toInt = (u.1 1).toInt; omega)⟩)
set_option maxHeartbeats 4000000 in
theorem okk_fcA_latestTime {g : Nat → Int32} {u : g_S} (I : IC g u) : okk (fcA_latestTime u) (fun r => True) := by
  unfold fcA_latestTime
  have z1_ := IC_s I
  try have t3_ : (0 : Int32).toInt = (0 : Int) := (by decide : (0 : Int32).toInt = 0)
  refine okk_ne (fun c2_ c2_I => ?_) (fun c2_ c2_I => ?_)
  · have t4_ : ((u.1 0) - (1 : Int32)).toInt = ((u.1 0).toInt - (1 : Int)) := (oi_sub (a := (u.1 0)) (b := (1 : Int32)) rfl (by decide : (1 : Int32).toInt = 1) (by omega) (by omega))
    refine okk_ck (vp_I (by omega) (by omega)) ?_
    exact okk_some (trivial)
  · exact okk_some (trivial)
set_option maxHeartbeats 4000000 in
theorem okk_fcA_isHoax {g : Nat → Int32} {u : g_S} (I : IC g u) {p1 : Int32} (h0 : 0 ≤ p1.toInt) (h1 : p1.toInt ≤ 120) : okk (fcA_isHoax u p1) (fun r => True) := by
  unfold fcA_isHoax
  have z1_ := IC_s I
  refine okk_ck (vp_I (by omega) (by omega)) ?_
  try have t3_ : (0 : Int32).toInt = (0 : Int) := (by decide : (0 : Int32).toInt = 0)
  refine okk_eq (fun c2_ c2_I => ?_) (fun c2_ c2_I => ?_)
  · exact okk_some (trivial)
  · exact okk_some (trivial)
set_option maxHeartbeats 4000000 in
theorem okk_fcA_isUnder_5 {g : Nat → Int32} {u : g_S} (I : IC g u) : ∀ (n : Nat) (x2 : Int32) (x3 : Int32) (x4 : Int32), 0 ≤ x4.toInt → x4.toInt ≤ 120 → -1 ≤ x3.toInt → x3.toInt ≤ 120 → 121 ≤ (n : Int) + x4.toInt → okk (fcA_isUnder_5 u n x2 x3 x4) (fun r => True) := by
  intro n
  induction n with
  | zero =>
    intro x2 x3 x4 h0 h1 h2 h3 hf
    exfalso; omega
  | succ n ih =>
    intro x2 x3 x4 h0 h1 h2 h3 hf
    rw [fcA_isUnder_5_s]
    have z1_ := IC_s I
    try have t3_ : (120 : Int32).toInt = (120 : Int) := (by decide : (120 : Int32).toInt = 120)
    refine okk_le (fun c2_ c2_I => ?_) (fun c2_ c2_I => ?_)
    · exact okk_some (trivial)
    · try have t5_ : (-1 : Int32).toInt = (-1 : Int) := (by decide : (-1 : Int32).toInt = -1)
      refine okk_eq (fun c4_ c4_I => ?_) (fun c4_ c4_I => ?_)
      · exact okk_some (trivial)
      · refine okk_ne (fun c6_ c6_I => ?_) (fun c6_ c6_I => ?_)
        · refine okk_ck (vp_I (by omega) (by omega)) ?_
          have r8_ := IC_r14 I x3.toNatClampNeg
          refine okk_gl (fun w17_ ew17_ => ?_)
          have t9_ : w17_.toInt = (u.2 14 x3.toNatClampNeg).toInt := by rw [ew17_]
          have t10_ : (x4 + (1 : Int32)).toInt = (x4.toInt + (1 : Int)) := (oi_add (a := x4) (b := (1 : Int32)) rfl (by decide : (1 : Int32).toInt = 1) (by omega) (by omega))
          exact ih x2 w17_ (x4 + (1 : Int32)) (by omega) (by omega) (by omega) (by omega) (by omega)
        · exact okk_some (trivial)
set_option maxHeartbeats 4000000 in
theorem okk_fcA_isUnder {g : Nat → Int32} {u : g_S} (I : IC g u) {p1 : Int32} {p2 : Int32} (h0 : 0 ≤ p1.toInt) (h1 : p1.toInt ≤ 120) : okk (fcA_isUnder u p1 p2) (fun r => True) := by
  unfold fcA_isUnder
  have z1_ := IC_s I
  have t2_ : (0 : Int32).toInt = (0 : Int) := (by decide : (0 : Int32).toInt = 0)
  exact okk_fcA_isUnder_5 I 200 p2 p1 (0 : Int32) (by omega) (by omega) (by omega) (by omega) (by omega)
set_option maxHeartbeats 4000000 in
theorem okk_fcA_moveBranch_2 {g : Nat → Int32} : ∀ (n : Nat) (u : g_S) (x1 : Int32) (x2 : Int32) (x3 : Int32), IC g u → 0 ≤ x3.toInt → x3.toInt ≤ 120 → 0 ≤ x2.toInt → x2.toInt ≤ 59 → 121 ≤ (n : Int) + x3.toInt → okk (fcA_moveBranch_2 n u x1 x2 x3) (fun r => IC g r ∧ ((r.1 0).toInt = (u.1 0).toInt) ∧ ((r.1 1).toInt = (u.1 1).toInt)) := by
  intro n
  induction n with
  | zero =>
    intro u x1 x2 x3 I h0 h1 h2 h3 hf
    exfalso; omega
  | succ n ih =>
    intro u x1 x2 x3 I h0 h1 h2 h3 hf
    rw [fcA_moveBranch_2_s]
    have z1_ := IC_s I
    refine okk_le (fun c2_ c2_I => ?_) (fun c2_ c2_I => ?_)
    · exact okk_some (⟨I, (by show (u.1 0).toInt = (u.1 0).toInt; omega), (by show (u.1 1).toInt = (u.1 1).toInt; omega)⟩)
    · refine okk_bi (okk_fcA_isUnder I (by omega) (by omega)) (fun v3_ hv3_ => ?_)
      have p4_ := hv3_
      try have t6_ : (0 : Int32).toInt = (0 : Int) := (by decide : (0 : Int32).toInt = 0)
      refine okk_eq (fun c5_ c5_I => ?_) (fun c5_ c5_I => ?_)
      · have t7_ : (x3 + (1 : Int32)).toInt = (x3.toInt + (1 : Int)) := (oi_add (a := x3) (b := (1 : Int32)) rfl (by decide : (1 : Int32).toInt = 1) (by omega) (by omega))
        refine okk_mono (ih u x1 x2 (x3 + (1 : Int32)) I (by omega) (by omega) (by omega) (by omega) (by omega)) (fun r8_ hr8_ => ?_)
        obtain ⟨p9_, p10_, p11_⟩ := hr8_
        exact ⟨p9_, (by show (r8_.1 0).toInt = (u.1 0).toInt; omega), (by show (r8_.1 1).toInt = (u.1 1).toInt; omega)⟩
      · refine okk_ck (vp_I (by omega) (by omega)) ?_
        refine okk_gl (fun u212_ eu212_ => ?_)
        have Iu212_ : IC g u212_ := by rw [eu212_]; exact IC_v13 I _ _ (by omega) (by omega)
        have z13_ : (u212_.1 0).toInt = (u.1 0).toInt := by rw [eu212_]; rfl
        have z14_ : (u212_.1 1).toInt = (u.1 1).toInt := by rw [eu212_]; rfl
        have t15_ : (x3 + (1 : Int32)).toInt = (x3.toInt + (1 : Int)) := (oi_add (a := x3) (b := (1 : Int32)) rfl (by decide : (1 : Int32).toInt = 1) (by omega) (by omega))
        have z16_ := IC_s Iu212_
        refine okk_mono (ih u212_ x1 x2 (x3 + (1 : Int32)) Iu212_ (by omega) (by omega) (by omega) (by omega) (by omega)) (fun r17_ hr17_ => ?_)
        obtain ⟨p18_, p19_, p20_⟩ := hr17_
        exact ⟨p18_, (by show (r17_.1 0).toInt = (u.1 0).toInt; omega), (by show (r17_.1 1).toInt = (u.1 1).toInt; omega)⟩
set_option maxHeartbeats 4000000 in
theorem okk_fcA_moveBranch {g : Nat → Int32} {u : g_S} (I : IC g u) {p1 : Int32} {p2 : Int32} (h0 : 0 ≤ p2.toInt) (h1 : p2.toInt ≤ 59) : okk (fcA_moveBranch u p1 p2) (fun r => IC g r ∧ ((r.1 0).toInt = (u.1 0).toInt) ∧ ((r.1 1).toInt = (u.1 1).toInt)) := by
  unfold fcA_moveBranch
  have z1_ := IC_s I
  have t2_ : (0 : Int32).toInt = (0 : Int) := (by decide : (0 : Int32).toInt = 0)
  refine okk_mono (okk_fcA_moveBranch_2 200 u p1 p2 (0 : Int32) I (by omega) (by omega) (by omega) (by omega) (by omega)) (fun r3_ hr3_ => ?_)
  obtain ⟨p4_, p5_, p6_⟩ := hr3_
  exact ⟨p4_, (by show (r3_.1 0).toInt = (u.1 0).toInt; omega), (by show (r3_.1 1).toInt = (u.1 1).toInt; omega)⟩
set_option maxHeartbeats 4000000 in
theorem okk_fcA_moveAll_2 {g : Nat → Int32} : ∀ (n : Nat) (u : g_S) (x1 : Int32) (x2 : Int32) (x3 : Int32), IC g u → 0 ≤ x3.toInt → x3.toInt ≤ 120 → 0 ≤ x2.toInt → x2.toInt ≤ 59 → 121 ≤ (n : Int) + x3.toInt → okk (fcA_moveAll_2 n u x1 x2 x3) (fun r => IC g r ∧ ((r.1 0).toInt = (u.1 0).toInt) ∧ ((r.1 1).toInt = (u.1 1).toInt)) := by
  intro n
  induction n with
  | zero =>
    intro u x1 x2 x3 I h0 h1 h2 h3 hf
    exfalso; omega
  | succ n ih =>
    intro u x1 x2 x3 I h0 h1 h2 h3 hf
    rw [fcA_moveAll_2_s]
    have z1_ := IC_s I
    refine okk_le (fun c2_ c2_I => ?_) (fun c2_ c2_I => ?_)
    · exact okk_some (⟨I, (by show (u.1 0).toInt = (u.1 0).toInt; omega), (by show (u.1 1).toInt = (u.1 1).toInt; omega)⟩)
    · refine okk_ck (vp_I (by omega) (by omega)) ?_
      have r4_ := IC_r13 I x3.toNatClampNeg
      refine okk_ne (fun c3_ c3_I => ?_) (fun c3_ c3_I => ?_)
      · have t5_ : (x3 + (1 : Int32)).toInt = (x3.toInt + (1 : Int)) := (oi_add (a := x3) (b := (1 : Int32)) rfl (by decide : (1 : Int32).toInt = 1) (by omega) (by omega))
        refine okk_mono (ih u x1 x2 (x3 + (1 : Int32)) I (by omega) (by omega) (by omega) (by omega) (by omega)) (fun r6_ hr6_ => ?_)
        obtain ⟨p7_, p8_, p9_⟩ := hr6_
        exact ⟨p7_, (by show (r6_.1 0).toInt = (u.1 0).toInt; omega), (by show (r6_.1 1).toInt = (u.1 1).toInt; omega)⟩
      · refine okk_ck (vp_I (by omega) (by omega)) ?_
        refine okk_gl (fun u110_ eu110_ => ?_)
        have Iu110_ : IC g u110_ := by rw [eu110_]; exact IC_v13 I _ _ (by omega) (by omega)
        have z11_ : (u110_.1 0).toInt = (u.1 0).toInt := by rw [eu110_]; rfl
        have z12_ : (u110_.1 1).toInt = (u.1 1).toInt := by rw [eu110_]; rfl
        have t13_ : (x3 + (1 : Int32)).toInt = (x3.toInt + (1 : Int)) := (oi_add (a := x3) (b := (1 : Int32)) rfl (by decide : (1 : Int32).toInt = 1) (by omega) (by omega))
        have z14_ := IC_s Iu110_
        refine okk_mono (ih u110_ x1 x2 (x3 + (1 : Int32)) Iu110_ (by omega) (by omega) (by omega) (by omega) (by omega)) (fun r15_ hr15_ => ?_)
        obtain ⟨p16_, p17_, p18_⟩ := hr15_
        exact ⟨p16_, (by show (r15_.1 0).toInt = (u.1 0).toInt; omega), (by show (r15_.1 1).toInt = (u.1 1).toInt; omega)⟩
set_option maxHeartbeats 4000000 in
theorem okk_fcA_moveAll {g : Nat → Int32} {u : g_S} (I : IC g u) {p1 : Int32} {p2 : Int32} (h0 : 0 ≤ p2.toInt) (h1 : p2.toInt ≤ 59) : okk (fcA_moveAll u p1 p2) (fun r => IC g r ∧ ((r.1 0).toInt = (u.1 0).toInt) ∧ ((r.1 1).toInt = (u.1 1).toInt)) := by
  unfold fcA_moveAll
  have z1_ := IC_s I
  have t2_ : (0 : Int32).toInt = (0 : Int) := (by decide : (0 : Int32).toInt = 0)
  refine okk_mono (okk_fcA_moveAll_2 200 u p1 p2 (0 : Int32) I (by omega) (by omega) (by omega) (by omega) (by omega)) (fun r3_ hr3_ => ?_)
  obtain ⟨p4_, p5_, p6_⟩ := hr3_
  exact ⟨p4_, (by show (r3_.1 0).toInt = (u.1 0).toInt; omega), (by show (r3_.1 1).toInt = (u.1 1).toInt; omega)⟩
set_option maxHeartbeats 4000000 in
theorem okk_fcA_countIn_4 {g : Nat → Int32} {u : g_S} (I : IC g u) : ∀ (n : Nat) (x1 : Int32) (x2 : Int32) (x3 : Int32), 0 ≤ x3.toInt → x3.toInt ≤ 120 → 121 ≤ (n : Int) + x3.toInt → okk (fcA_countIn_4 u n x1 x2 x3) (fun r => True) := by
  intro n
  induction n with
  | zero =>
    intro x1 x2 x3 h0 h1 hf
    exfalso; omega
  | succ n ih =>
    intro x1 x2 x3 h0 h1 hf
    rw [fcA_countIn_4_s]
    have z1_ := IC_s I
    refine okk_le (fun c2_ c2_I => ?_) (fun c2_ c2_I => ?_)
    · exact okk_some (trivial)
    · refine okk_ck (vp_I (by omega) (by omega)) ?_
      have r4_ := IC_r13 I x3.toNatClampNeg
      refine okk_ne (fun c3_ c3_I => ?_) (fun c3_ c3_I => ?_)
      · have t5_ : (x3 + (1 : Int32)).toInt = (x3.toInt + (1 : Int)) := (oi_add (a := x3) (b := (1 : Int32)) rfl (by decide : (1 : Int32).toInt = 1) (by omega) (by omega))
        exact ih x1 x2 (x3 + (1 : Int32)) (by omega) (by omega) (by omega)
      · have t6_ : (x3 + (1 : Int32)).toInt = (x3.toInt + (1 : Int)) := (oi_add (a := x3) (b := (1 : Int32)) rfl (by decide : (1 : Int32).toInt = 1) (by omega) (by omega))
        exact ih x1 (x2 + (1 : Int32)) (x3 + (1 : Int32)) (by omega) (by omega) (by omega)
set_option maxHeartbeats 4000000 in
theorem okk_fcA_countIn {g : Nat → Int32} {u : g_S} (I : IC g u) {p1 : Int32} : okk (fcA_countIn u p1) (fun r => True) := by
  unfold fcA_countIn
  have z1_ := IC_s I
  have t2_ : (0 : Int32).toInt = (0 : Int) := (by decide : (0 : Int32).toInt = 0)
  exact okk_fcA_countIn_4 I 200 p1 (0 : Int32) (0 : Int32) (by omega) (by omega) (by omega)
set_option maxHeartbeats 4000000 in
theorem okk_fcA_memberOf_5 {g : Nat → Int32} {u : g_S} (I : IC g u) : ∀ (n : Nat) (x1 : Int32) (x2 : Int32) (x3 : Int32) (x4 : Int32), 0 ≤ x4.toInt → x4.toInt ≤ 120 → 121 ≤ (n : Int) + x4.toInt → okk (fcA_memberOf_5 u n x1 x2 x3 x4) (fun r => True) := by
  intro n
  induction n with
  | zero =>
    intro x1 x2 x3 x4 h0 h1 hf
    exfalso; omega
  | succ n ih =>
    intro x1 x2 x3 x4 h0 h1 hf
    rw [fcA_memberOf_5_s]
    have z1_ := IC_s I
    refine okk_le (fun c2_ c2_I => ?_) (fun c2_ c2_I => ?_)
    · exact okk_some (trivial)
    · refine okk_ck (vp_I (by omega) (by omega)) ?_
      have r4_ := IC_r13 I x4.toNatClampNeg
      refine okk_ne (fun c3_ c3_I => ?_) (fun c3_ c3_I => ?_)
      · have t5_ : (x4 + (1 : Int32)).toInt = (x4.toInt + (1 : Int)) := (oi_add (a := x4) (b := (1 : Int32)) rfl (by decide : (1 : Int32).toInt = 1) (by omega) (by omega))
        exact ih x1 x2 x3 (x4 + (1 : Int32)) (by omega) (by omega) (by omega)
      · refine okk_ne (fun c6_ c6_I => ?_) (fun c6_ c6_I => ?_)
        · have t7_ : (x4 + (1 : Int32)).toInt = (x4.toInt + (1 : Int)) := (oi_add (a := x4) (b := (1 : Int32)) rfl (by decide : (1 : Int32).toInt = 1) (by omega) (by omega))
          exact ih x1 x2 (x3 + (1 : Int32)) (x4 + (1 : Int32)) (by omega) (by omega) (by omega)
        · exact okk_some (trivial)
set_option maxHeartbeats 4000000 in
theorem okk_fcA_memberOf {g : Nat → Int32} {u : g_S} (I : IC g u) {p1 : Int32} {p2 : Int32} : okk (fcA_memberOf u p1 p2) (fun r => True) := by
  unfold fcA_memberOf
  have z1_ := IC_s I
  have t2_ : (0 : Int32).toInt = (0 : Int) := (by decide : (0 : Int32).toInt = 0)
  exact okk_fcA_memberOf_5 I 200 p1 p2 (0 : Int32) (0 : Int32) (by omega) (by omega) (by omega)
set_option maxHeartbeats 4000000 in
theorem okk_fcA_weighCall {g : Nat → Int32} {u : g_S} (I : IC g u) {p1 : Int32} (h0 : 0 ≤ p1.toInt) (h1 : p1.toInt ≤ 120) : okk (fcA_weighCall u p1) (fun r => True) := by
  unfold fcA_weighCall
  have z1_ := IC_s I
  refine okk_ck (vp_I (by omega) (by omega)) ?_
  try have t3_ : (0 : Int32).toInt = (0 : Int) := (by decide : (0 : Int32).toInt = 0)
  refine okk_eq (fun c2_ c2_I => ?_) (fun c2_ c2_I => ?_)
  · unfold fcA_weighCall_16
    refine okk_ck (vp_I (by omega) (by omega)) ?_
    try have t5_ : (-1 : Int32).toInt = (-1 : Int) := (by decide : (-1 : Int32).toInt = -1)
    refine okk_eq (fun c4_ c4_I => ?_) (fun c4_ c4_I => ?_)
    · exact okk_some (trivial)
    · exact okk_some (trivial)
  · unfold fcA_weighCall_16
    refine okk_ck (vp_I (by omega) (by omega)) ?_
    try have t7_ : (-1 : Int32).toInt = (-1 : Int) := (by decide : (-1 : Int32).toInt = -1)
    refine okk_eq (fun c6_ c6_I => ?_) (fun c6_ c6_I => ?_)
    · exact okk_some (trivial)
    · exact okk_some (trivial)
set_option maxHeartbeats 4000000 in
theorem okk_fcA_weighEvent_4 {g : Nat → Int32} {u : g_S} (I : IC g u) : ∀ (n : Nat) (x1 : Int32) (x2 : Int32) (x3 : Int32), 0 ≤ x3.toInt → x3.toInt ≤ 120 → 121 ≤ (n : Int) + x3.toInt → okk (fcA_weighEvent_4 u n x1 x2 x3) (fun r => True) := by
  intro n
  induction n with
  | zero =>
    intro x1 x2 x3 h0 h1 hf
    exfalso; omega
  | succ n ih =>
    intro x1 x2 x3 h0 h1 hf
    rw [fcA_weighEvent_4_s]
    have z1_ := IC_s I
    refine okk_le (fun c2_ c2_I => ?_) (fun c2_ c2_I => ?_)
    · exact okk_some (trivial)
    · refine okk_ck (vp_I (by omega) (by omega)) ?_
      have r4_ := IC_r13 I x3.toNatClampNeg
      refine okk_ne (fun c3_ c3_I => ?_) (fun c3_ c3_I => ?_)
      · have t5_ : (x3 + (1 : Int32)).toInt = (x3.toInt + (1 : Int)) := (oi_add (a := x3) (b := (1 : Int32)) rfl (by decide : (1 : Int32).toInt = 1) (by omega) (by omega))
        exact ih x1 x2 (x3 + (1 : Int32)) (by omega) (by omega) (by omega)
      · refine okk_bi (okk_fcA_isHoax I (by omega) (by omega)) (fun v6_ hv6_ => ?_)
        have p7_ := hv6_
        try have t9_ : (0 : Int32).toInt = (0 : Int) := (by decide : (0 : Int32).toInt = 0)
        refine okk_ne (fun c8_ c8_I => ?_) (fun c8_ c8_I => ?_)
        · have t10_ : (x3 + (1 : Int32)).toInt = (x3.toInt + (1 : Int)) := (oi_add (a := x3) (b := (1 : Int32)) rfl (by decide : (1 : Int32).toInt = 1) (by omega) (by omega))
          exact ih x1 x2 (x3 + (1 : Int32)) (by omega) (by omega) (by omega)
        · refine okk_bi (okk_fcA_weighCall I (by omega) (by omega)) (fun v11_ hv11_ => ?_)
          have p12_ := hv11_
          try have t14_ : (x2 + v11_).toInt = (x2.toInt + v11_.toInt) := (oi_add (a := x2) (b := v11_) rfl rfl (by omega) (by omega))
          refine okk_gl (fun w313_ ew313_ => ?_)
          have t15_ : w313_.toInt = (x2 + v11_).toInt := by rw [ew313_]
          have t16_ : (x3 + (1 : Int32)).toInt = (x3.toInt + (1 : Int)) := (oi_add (a := x3) (b := (1 : Int32)) rfl (by decide : (1 : Int32).toInt = 1) (by omega) (by omega))
          exact ih x1 w313_ (x3 + (1 : Int32)) (by omega) (by omega) (by omega)
set_option maxHeartbeats 4000000 in
theorem okk_fcA_weighEvent {g : Nat → Int32} {u : g_S} (I : IC g u) {p1 : Int32} : okk (fcA_weighEvent u p1) (fun r => True) := by
  unfold fcA_weighEvent
  have z1_ := IC_s I
  have t2_ : (0 : Int32).toInt = (0 : Int) := (by decide : (0 : Int32).toInt = 0)
  exact okk_fcA_weighEvent_4 I 200 p1 (0 : Int32) (0 : Int32) (by omega) (by omega) (by omega)
set_option maxHeartbeats 4000000 in
theorem okk_fcA_pointOf_2 {g : Nat → Int32} {u : g_S} (I : IC g u) : ∀ (n : Nat) (x1 : Int32) (x2 : Int32), 0 ≤ x2.toInt → x2.toInt ≤ 120 → 121 ≤ (n : Int) + x2.toInt → okk (fcA_pointOf_2 u n x1 x2) (fun r => True) := by
  intro n
  induction n with
  | zero =>
    intro x1 x2 h0 h1 hf
    exfalso; omega
  | succ n ih =>
    intro x1 x2 h0 h1 hf
    rw [fcA_pointOf_2_s]
    have z1_ := IC_s I
    refine okk_le (fun c2_ c2_I => ?_) (fun c2_ c2_I => ?_)
    · exact okk_some (trivial)
    · refine okk_ck (vp_I (by omega) (by omega)) ?_
      have r4_ := IC_r13 I x2.toNatClampNeg
      refine okk_ne (fun c3_ c3_I => ?_) (fun c3_ c3_I => ?_)
      · have t5_ : (x2 + (1 : Int32)).toInt = (x2.toInt + (1 : Int)) := (oi_add (a := x2) (b := (1 : Int32)) rfl (by decide : (1 : Int32).toInt = 1) (by omega) (by omega))
        exact ih x1 (x2 + (1 : Int32)) (by omega) (by omega) (by omega)
      · refine okk_bi (okk_fcA_isHoax I (by omega) (by omega)) (fun v6_ hv6_ => ?_)
        have p7_ := hv6_
        try have t9_ : (0 : Int32).toInt = (0 : Int) := (by decide : (0 : Int32).toInt = 0)
        refine okk_ne (fun c8_ c8_I => ?_) (fun c8_ c8_I => ?_)
        · have t10_ : (x2 + (1 : Int32)).toInt = (x2.toInt + (1 : Int)) := (oi_add (a := x2) (b := (1 : Int32)) rfl (by decide : (1 : Int32).toInt = 1) (by omega) (by omega))
          exact ih x1 (x2 + (1 : Int32)) (by omega) (by omega) (by omega)
        · refine okk_ck (vp_I (by omega) (by omega)) ?_
          try have t12_ : (-1 : Int32).toInt = (-1 : Int) := (by decide : (-1 : Int32).toInt = -1)
          refine okk_eq (fun c11_ c11_I => ?_) (fun c11_ c11_I => ?_)
          · have t13_ : (x2 + (1 : Int32)).toInt = (x2.toInt + (1 : Int)) := (oi_add (a := x2) (b := (1 : Int32)) rfl (by decide : (1 : Int32).toInt = 1) (by omega) (by omega))
            exact ih x1 (x2 + (1 : Int32)) (by omega) (by omega) (by omega)
          · refine okk_ck (vp_I (by omega) (by omega)) ?_
            exact okk_some (trivial)
set_option maxHeartbeats 4000000 in
theorem okk_fcA_pointOf {g : Nat → Int32} {u : g_S} (I : IC g u) {p1 : Int32} : okk (fcA_pointOf u p1) (fun r => True) := by
  unfold fcA_pointOf
  have z1_ := IC_s I
  have t2_ : (0 : Int32).toInt = (0 : Int) := (by decide : (0 : Int32).toInt = 0)
  exact okk_fcA_pointOf_2 I 200 p1 (0 : Int32) (by omega) (by omega) (by omega)
set_option maxHeartbeats 4000000 in
theorem okk_fcA_latestTimeOf_7 {g : Nat → Int32} {u : g_S} (I : IC g u) : ∀ (n : Nat) (x1 : Int32) (x2 : Int32), -1 ≤ x2.toInt → x2.toInt ≤ 119 → x2.toInt + 2 ≤ (n : Int) → okk (fcA_latestTimeOf_7 u n x1 x2) (fun r => True) := by
  intro n
  induction n with
  | zero =>
    intro x1 x2 h0 h1 hf
    exfalso; omega
  | succ n ih =>
    intro x1 x2 h0 h1 hf
    rw [fcA_latestTimeOf_7_s]
    have z1_ := IC_s I
    try have t3_ : (0 : Int32).toInt = (0 : Int) := (by decide : (0 : Int32).toInt = 0)
    refine okk_lt (fun c2_ c2_I => ?_) (fun c2_ c2_I => ?_)
    · exact okk_some (trivial)
    · refine okk_ck (vp_I (by omega) (by omega)) ?_
      have r5_ := IC_r13 I x2.toNatClampNeg
      refine okk_ne (fun c4_ c4_I => ?_) (fun c4_ c4_I => ?_)
      · have t6_ : (x2 + (-1 : Int32)).toInt = (x2.toInt + (-1 : Int)) := (oi_add (a := x2) (b := (-1 : Int32)) rfl (by decide : (-1 : Int32).toInt = -1) (by omega) (by omega))
        exact ih x1 (x2 + (-1 : Int32)) (by omega) (by omega) (by omega)
      · refine okk_ck (vp_I (by omega) (by omega)) ?_
        exact okk_some (trivial)
set_option maxHeartbeats 4000000 in
theorem okk_fcA_latestTimeOf {g : Nat → Int32} {u : g_S} (I : IC g u) {p1 : Int32} : okk (fcA_latestTimeOf u p1) (fun r => True) := by
  unfold fcA_latestTimeOf
  have z1_ := IC_s I
  try have t3_ : ((u.1 0) - (1 : Int32)).toInt = ((u.1 0).toInt - (1 : Int)) := (oi_sub (a := (u.1 0)) (b := (1 : Int32)) rfl (by decide : (1 : Int32).toInt = 1) (by omega) (by omega))
  refine okk_gl (fun w12_ ew12_ => ?_)
  have t4_ : w12_.toInt = ((u.1 0) - (1 : Int32)).toInt := by rw [ew12_]
  exact okk_fcA_latestTimeOf_7 I 200 p1 w12_ (by omega) (by omega) (by omega)
