section HN3
variable {g : Nat → Int32} {u : g_S}
theorem okk_call90 (I : IM g u) {x1 x2 x3 x4 x6 x7 : Int32} (hk : 0 ≤ x2.toInt) (hk2 : x2.toInt ≤ 7) (h1 : -1 ≤ x7.toInt) (h2 : x7.toInt < (u.1 1).toInt) (hc : (u.1 1).toInt ≤ 119) (he : 0 ≤ x7.toInt ∨ (u.1 2).toInt ≤ 59) : okk (fm_call_90 u x1 x2 x3 x4 x6 x7 (0 : Int32) (0 : Int32) (0 : Int32)) (fun r => IM g r.2) := by
  unfold fm_call_90
  have z0 : (0 : Int32).toInt = 0 := by decide
  obtain ⟨w, ew⟩ : ∃ y, y = g_sI u 0 (0 : Int32) := ⟨_, rfl⟩
  refine okk_bs (v := ((0 : Int32), w)) (by rw [ew]; exact fm_thr_0 _) ?_
  dsimp only
  have I0 : IM g w := by rw [ew]; exact IM_ix I _ (by decide)
  have a1 : (w.1 1).toInt = (u.1 1).toInt := by rw [ew]; rfl
  have a2 : (w.1 2).toInt = (u.1 2).toInt := by rw [ew]; rfl
  have hs := IM_s I0
  clear ew
  refine okk_t (by decide) ?_
  refine okk_gl (fun c ec => ?_)
  have tc : c.toInt = (w.1 1).toInt := by rw [ec]
  have hcl : (c.toNatClampNeg : Int) = c.toInt := cl_I (by omega)
  refine okk_ck (vp_I (by omega) (by omega)) ?_
  refine okk_gl (fun b7 e7 => ?_)
  have J7 : IM g b7 := by rw [e7]; exact IM_wx I0 7 _ _ rfl rfl (by decide)
  have s7_1 : (b7.1 1).toInt = (w.1 1).toInt := by rw [e7]; rfl
  have s7_2 : (b7.1 2).toInt = (w.1 2).toInt := by rw [e7]; rfl
  refine okk_ck (vp_I (by omega) (by omega)) ?_
  refine okk_gl (fun b8 e8 => ?_)
  have J8 : IM g b8 := by rw [e8]; exact IM_v8 J7 _ _ hk hk2
  have s8_1 : (b8.1 1).toInt = (b7.1 1).toInt := by rw [e8]; rfl
  have s8_2 : (b8.1 2).toInt = (b7.1 2).toInt := by rw [e8]; rfl
  refine okk_ck (vp_I (by omega) (by omega)) ?_
  refine okk_gl (fun b9 e9 => ?_)
  have J9 : IM g b9 := by rw [e9]; exact IM_wx J8 9 _ _ rfl rfl (by decide)
  have s9_1 : (b9.1 1).toInt = (b8.1 1).toInt := by rw [e9]; rfl
  have s9_2 : (b9.1 2).toInt = (b8.1 2).toInt := by rw [e9]; rfl
  refine okk_ck (vp_I (by omega) (by omega)) ?_
  refine okk_gl (fun b10 e10 => ?_)
  have J10 : IM g b10 := by rw [e10]; exact IM_wx J9 10 _ _ rfl rfl (by decide)
  have s10_1 : (b10.1 1).toInt = (b9.1 1).toInt := by rw [e10]; rfl
  have s10_2 : (b10.1 2).toInt = (b9.1 2).toInt := by rw [e10]; rfl
  refine okk_ck (vp_I (by omega) (by omega)) ?_
  refine okk_gl (fun b11 e11 => ?_)
  have J11 : IM g b11 := by rw [e11]; exact IM_wx J10 11 _ _ rfl rfl (by decide)
  have s11_1 : (b11.1 1).toInt = (b10.1 1).toInt := by rw [e11]; rfl
  have s11_2 : (b11.1 2).toInt = (b10.1 2).toInt := by rw [e11]; rfl
  refine okk_ck (vp_I (by omega) (by omega)) ?_
  refine okk_gl (fun b14 e14 => ?_)
  have J14 : IM g b14 := by rw [e14]; exact IM_wx J11 14 _ _ rfl rfl (by decide)
  have s14_1 : (b14.1 1).toInt = (b11.1 1).toInt := by rw [e14]; rfl
  have s14_2 : (b14.1 2).toInt = (b11.1 2).toInt := by rw [e14]; rfl
  refine okk_ck (vp_I (by omega) (by omega)) ?_
  refine okk_gl (fun b13 e13 => ?_)
  have J13 : IM g b13 := by rw [e13]; exact IM_w13b J14 _ _ h1 (by omega) (by omega)
  have s13_1 : (b13.1 1).toInt = (b14.1 1).toInt := by rw [e13]; rfl
  have s13_2 : (b13.1 2).toInt = (b14.1 2).toInt := by rw [e13]; rfl
  refine okk_ck (vp_I (by omega) (by omega)) ?_
  refine okk_gl (fun b15 e15 => ?_)
  have J15 : IM g b15 := by rw [e15]; exact IM_wx J13 15 _ _ rfl rfl (by decide)
  have s15_1 : (b15.1 1).toInt = (b13.1 1).toInt := by rw [e15]; rfl
  have s15_2 : (b15.1 2).toInt = (b13.1 2).toInt := by rw [e15]; rfl
  have hx : b15.2 13 c.toNatClampNeg = x7 := by rw [e15, eq_w 15 _ _ 13 _ (by decide), e13, rdA, if_pos ⟨rfl, rfl⟩]
  refine okk_le (fun f fI => ?_) (fun f fI => ?_)
  · have hx7 : (x7.toNatClampNeg : Int) = x7.toInt := cl_I (by omega)
    have hev := IM_e J15 x7.toNatClampNeg (by omega)
    have hr := IM_r12 J15 x7.toNatClampNeg
    refine okk_ck (vp_I (by omega) (by omega)) ?_
    unfold fm_call_199
    refine okk_ck (vp_I (by omega) (by omega)) ?_
    refine okk_gl (fun ua ea => ?_)
    have Ia : IM g ua := by rw [ea]; exact IM_w12b J15 _ _ (by omega) (by omega) (by omega)
    have sa : (ua.1 1).toInt = (b15.1 1).toInt := by rw [ea]; rfl
    have sb : (ua.1 2).toInt = (b15.1 2).toInt := by rw [ea]; rfl
    refine okk_gl (fun ub eb => ?_)
    have t1 : ((ua.1 1) + (1 : Int32)).toInt = (ua.1 1).toInt + 1 := oi_add rfl (by decide) (by omega) (by omega)
    have Ib : IM g ub := by
      rw [eb]
      refine IM_i1u Ia _ t1 (by omega) (fun d hd => ?_)
      have hdc : d = c.toNatClampNeg := by omega
      rw [hdc, sb, ea, rdA, if_pos ⟨rfl, rfl⟩]; exact hev
    exact okk_some Ib
  · have h5 : (b15.1 2).toInt ≤ 59 := by omega
    refine okk_bs (fm_new_eq b15 (by omega) (by omega)) ?_
    dsimp only
    have t2 : ((b15.1 2) + (1 : Int32)).toInt = (b15.1 2).toInt + 1 := oi_add rfl (by decide) (by omega) (by omega)
    have tE : (((b15.1 2) + (1 : Int32)) - (1 : Int32)).toInt = (b15.1 2).toInt := by
      rw [oi_sub t2 (by decide : (1 : Int32).toInt = 1) (by omega) (by omega)]; omega
    unfold fm_call_199
    refine okk_ck (vp_I (by omega) (by omega)) ?_
    refine okk_gl (fun ua ea => ?_)
    refine okk_gl (fun ub eb => ?_)
    have u1 : ua.1 1 = b15.1 1 := by rw [ea]; rfl
    have t1 : ((ua.1 1) + (1 : Int32)).toInt = (b15.1 1).toInt + 1 := by rw [u1]; exact oi_add rfl (by decide) (by omega) (by omega)
    have Ib : IM g ub := by
      rw [eb]
      generalize (ua.1 1) + (1 : Int32) = v1 at t1 ⊢
      rw [ea]
      exact IM_new J15 (by omega) (by omega) h5 (by rw [hx]; omega) t2 tE t1
    exact okk_some Ib
def IMx (g : Nat → Int32) (E : Nat) (u : g_S) : Prop := (0 ≤ (u.1 1).toInt ∧ (u.1 1).toInt ≤ 120 ∧ 0 ≤ (u.1 2).toInt ∧ (u.1 2).toInt ≤ 60) ∧ (∀ k j : Nat, loM k ≤ (u.2 k j).toInt ∧ (u.2 k j).toInt ≤ hiM k) ∧ ((∀ e : Nat, ¬ e = E → (e : Int) < (u.1 2).toInt → ¬ u.2 16 e = 3 → ∃ c : Nat, (c : Int) < (u.1 1).toInt ∧ (u.2 12 c).toInt = e ∧ (u.2 13 c).toInt < 0) ∧ ∀ c : Nat, (c : Int) < (u.1 1).toInt → (u.2 12 c).toInt < (u.1 2).toInt) ∧ ∀ j, u.2 5 j = g j
theorem IMx_of {E : Nat} (I : IM g u) (i v : Int32) (h1 : -1 ≤ v.toInt) (h2 : v.toInt ≤ 119) (h : (u.2 12 i.toNatClampNeg).toInt = E) : IMx g E (g_sA u 13 i v) := by
  refine ⟨I.1, rg_w (lo := loM) (hi := hiM) I.2.1 13 i v h1 h2, ⟨fun e ne he q => ?_, fun c q => ?_⟩, fun j => ?_⟩
  · rw [eq_w 13 i v 16 e (by decide)] at q
    obtain ⟨c, a1, a2, a3⟩ := IM_f I e he q
    refine ⟨c, a1, by rw [eq_w 13 i v 12 c (by decide)]; exact a2, ?_⟩
    rw [rdA, if_neg (fun y => by rw [y.2] at a2; omega)]; exact a3
  · rw [eq_w 13 i v 12 c (by decide)]; exact IM_e I c q
  · rw [eq_w 13 i v 5 j (by decide)]; exact IM_g I j
theorem IMx_15 {E : Nat} (I : IMx g E u) (i v : Int32) : IMx g E (g_sA u 15 i v) := by
  refine ⟨I.1, rg_w (lo := loM) (hi := hiM) I.2.1 15 i v (oi_lo v) (oi_hi v), ⟨fun e ne he q => ?_, fun c q => ?_⟩, fun j => ?_⟩
  · rw [eq_w 15 i v 16 e (by decide)] at q
    obtain ⟨c, a1, a2, a3⟩ := I.2.2.1.1 e ne he q
    exact ⟨c, a1, by rw [eq_w 15 i v 12 c (by decide)]; exact a2, by rw [eq_w 15 i v 13 c (by decide)]; exact a3⟩
  · rw [eq_w 15 i v 12 c (by decide)]; exact I.2.2.1.2 c q
  · rw [eq_w 15 i v 5 j (by decide)]; exact I.2.2.2 j
theorem IMx_12 {E : Nat} (I : IMx g E u) (i v : Int32) (h1 : 0 ≤ v.toInt) (h2 : v.toInt ≤ 59) (h3 : v.toInt < (u.1 2).toInt) (h : (u.2 12 i.toNatClampNeg).toInt = E) : IMx g E (g_sA u 12 i v) := by
  refine ⟨I.1, rg_w (lo := loM) (hi := hiM) I.2.1 12 i v h1 h2, ⟨fun e ne he q => ?_, fun c q => ?_⟩, fun j => ?_⟩
  · rw [eq_w 12 i v 16 e (by decide)] at q
    obtain ⟨c, a1, a2, a3⟩ := I.2.2.1.1 e ne he q
    refine ⟨c, a1, ?_, by rw [eq_w 12 i v 13 c (by decide)]; exact a3⟩
    rw [rdA, if_neg (fun y => by rw [y.2] at a2; omega)]; exact a2
  · rw [rdA]
    by_cases y : 12 = 12 ∧ c = i.toNatClampNeg
    · rw [if_pos y]; exact h3
    · rw [if_neg y]; exact I.2.2.1.2 c q
  · rw [eq_w 12 i v 5 j (by decide)]; exact I.2.2.2 j
theorem IMx_cl {E : Nat} (I : IMx g E u) (i : Int32) (h : i.toNatClampNeg = E) : IM g (g_sA u 16 i (3 : Int32)) := by
  refine ⟨I.1, rg_w (lo := loM) (hi := hiM) I.2.1 16 i (3 : Int32) (oi_lo 3) (oi_hi 3), ⟨fun e he q => ?_, fun c q => ?_⟩, fun j => ?_⟩
  · rw [rdA] at q
    by_cases z : e = i.toNatClampNeg
    · rw [if_pos ⟨rfl, z⟩] at q; exact absurd rfl q
    · rw [if_neg (fun y => z y.2)] at q
      obtain ⟨c, a1, a2, a3⟩ := I.2.2.1.1 e (by rw [← h]; exact z) he q
      exact ⟨c, a1, by rw [eq_w 16 i _ 12 c (by decide)]; exact a2, by rw [eq_w 16 i _ 13 c (by decide)]; exact a3⟩
  · rw [eq_w 16 i _ 12 c (by decide)]; exact I.2.2.1.2 c q
  · rw [eq_w 16 i _ 5 j (by decide)]; exact I.2.2.2 j
theorem okk_merge115 {x1 x2 : Int32} (h0 : 0 ≤ x1.toInt) (h2 : 0 ≤ x2.toInt) : ∀ (n : Nat) (u : g_S) (x6 : Int32), IMx g x1.toNatClampNeg u → x1.toInt < (u.1 2).toInt → x2.toInt < (u.1 1).toInt → ¬ u.2 12 x2.toNatClampNeg = x1 → 0 ≤ x6.toInt → x6.toInt ≤ 120 → 121 ≤ (n : Int) + x6.toInt → okk (fm_merge_115 n u x1 x2 x6) (fun r => IM g r.2) := by
  intro n
  induction n with
  | zero =>
    intro u x6 I a1 a2 a3 h3 h4 hf
    exfalso; omega
  | succ n ih =>
    intro u x6 I a1 a2 a3 h3 h4 hf
    have hs := I.1
    have hx1 : (x1.toNatClampNeg : Int) = x1.toInt := cl_I h0
    have hx2 : (x2.toNatClampNeg : Int) = x2.toInt := cl_I h2
    rw [fm_merge_115_s]
    refine okk_le (fun c cI => ?_) (fun c cI => ?_)
    · refine okk_ck (vp_I (by omega) (by omega)) ?_
      refine okk_gl (fun b6 e6 => ?_)
      have I6 : IM g b6 := by rw [e6]; exact IMx_cl I _ rfl
      refine okk_ck (vp_I (by omega) (by omega)) ?_
      refine okk_gl (fun b7 e7 => ?_)
      have I7 : IM g b7 := by rw [e7]; exact IM_v17 I6 _ _ (by decide) (by decide)
      refine okk_ck (vp_I (by omega) (by omega)) ?_
      refine okk_bi (okk_fm_size I7) (fun v8 _ => ?_)
      exact okk_some I7
    · have t : (x6 + (1 : Int32)).toInt = x6.toInt + 1 := oi_add rfl (by decide) (by omega) (by omega)
      refine okk_ck (vp_I (by omega) (by omega)) ?_
      refine okk_ne (fun _ _ => ih u (x6 + (1 : Int32)) I a1 a2 a3 (by omega) (by omega) (by omega)) (fun d dI => ?_)
      refine okk_ck (vp_I (by omega) (by omega)) ?_
      refine okk_ck (vp_I (by omega) (by omega)) ?_
      refine okk_gl (fun b9 e9 => ?_)
      have hr : loM 12 ≤ (u.2 12 x2.toNatClampNeg).toInt ∧ (u.2 12 x2.toNatClampNeg).toInt ≤ hiM 12 := I.2.1 12 _
      have hv := I.2.2.1.2 x2.toNatClampNeg (by omega)
      have I9 : IMx g x1.toNatClampNeg b9 := by rw [e9]; exact IMx_12 I _ _ hr.1 hr.2 hv (by rw [dI]; omega)
      have a9 : ¬ b9.2 12 x2.toNatClampNeg = x1 := by
        rw [e9, rdA]
        by_cases y : 12 = 12 ∧ x2.toNatClampNeg = x6.toNatClampNeg
        · rw [if_pos y]; exact a3
        · rw [if_neg y]; exact a3
      exact ih b9 (x6 + (1 : Int32)) I9 (by rw [e9]; exact a1) (by rw [e9]; exact a2) a9 (by omega) (by omega) (by omega)
theorem okk_merge80 (I : IM g u) {x1 x2 : Int32} (h0 : 0 ≤ x1.toInt) (h1 : x1.toInt < (u.1 2).toInt) (hst : u.2 16 x1.toNatClampNeg = 0) (h2 : 0 ≤ x2.toInt) (h3 : x2.toInt < (u.1 1).toInt) (hne : ¬ u.2 12 x2.toNatClampNeg = x1) : okk (fm_merge_80 u x1 x2 (0 : Int32) (0 : Int32)) (fun r => IM g r.2) := by
  unfold fm_merge_80
  have z0 : (0 : Int32).toInt = 0 := by decide
  obtain ⟨w, ew⟩ : ∃ y, y = g_sI u 0 (0 : Int32) := ⟨_, rfl⟩
  refine okk_bs (v := ((0 : Int32), w)) (by rw [ew]; exact fm_thr_0 _) ?_
  dsimp only
  have I0 : IM g w := by rw [ew]; exact IM_ix I _ (by decide)
  have a1 : w.1 1 = u.1 1 := by rw [ew]; rfl
  have a2 : w.1 2 = u.1 2 := by rw [ew]; rfl
  have a3 : w.2 = u.2 := by rw [ew]; rfl
  rw [← a1] at h3
  rw [← a2] at h1
  rw [← a3] at hst hne
  clear ew a1 a2 a3
  have hs := IM_s I0
  have hx1 : (x1.toNatClampNeg : Int) = x1.toInt := cl_I h0
  refine okk_t (by decide) ?_
  refine okk_bi (okk_firstO I0 h0 h1 (by rw [hst]; decide)) (fun f hf => ?_)
  obtain ⟨b1, b2, b3, b4⟩ := hf
  refine okk_ck (vp_I (by omega) (by omega)) ?_
  refine okk_gl (fun c4 e4 => ?_)
  have I4 : IMx g x1.toNatClampNeg c4 := by rw [e4]; exact IMx_of I0 _ _ (by omega) (by omega) (by rw [b3]; omega)
  refine okk_ck (vp_I (by omega) (by omega)) ?_
  refine okk_gl (fun c5 e5 => ?_)
  have I5 : IMx g x1.toNatClampNeg c5 := by rw [e5]; exact IMx_15 I4 _ _
  have n5 : ¬ c5.2 12 x2.toNatClampNeg = x1 := by
    rw [e5, eq_w 15 _ _ 12 _ (by decide), e4, eq_w 13 _ _ 12 _ (by decide)]; exact hne
  exact okk_merge115 h0 h2 200 c5 (0 : Int32) I5 (by rw [e5, e4]; exact h1) (by rw [e5, e4]; exact h3) n5 (by omega) (by omega) (by omega)
theorem okk_fcR_append {p1 p2 : Int32} (I : IC g u) (h0 : 0 ≤ p1.toInt) (h1 : p1.toInt ≤ 7) (h2 : (g p1.toNatClampNeg).toInt ≤ 7) : okk (fcR_append u p1 p2) (fun r => r.1 = g p1.toNatClampNeg + (1 : Int32) ∧ IC (upd g p1.toNatClampNeg (g p1.toNatClampNeg + (1 : Int32))) r.2) := by
  unfold fcR_append
  have eg := IC_g I p1.toNatClampNeg
  have r := IC_r5 I p1.toNatClampNeg
  rw [eg] at r ⊢
  have t : (p1 * (8 : Int32)).toInt = p1.toInt * 8 := oi_mul rfl (by decide) (by omega) (by omega)
  have t2 : ((p1 * (8 : Int32)) + g p1.toNatClampNeg).toInt = p1.toInt * 8 + (g p1.toNatClampNeg).toInt := oi_add t rfl (by omega) (by omega)
  have t3 : (g p1.toNatClampNeg + (1 : Int32)).toInt = (g p1.toNatClampNeg).toInt + 1 := oi_add rfl (by decide) (by omega) (by omega)
  refine okk_ck (vp_I (by omega) (by omega)) ?_
  refine okk_ck (vp_I (by omega) (by omega)) ?_
  refine okk_gl (fun u1 e1 => ?_)
  have I1 : IC g u1 := by rw [e1]; exact IC_wx I 6 _ _ rfl rfl (by decide)
  have eg1 := IC_g I1 p1.toNatClampNeg
  rw [eg1]
  refine okk_ck (vp_I (by omega) (by omega)) ?_
  refine okk_ck (vp_I (by omega) (by omega)) ?_
  refine okk_gl (fun u2 e2 => ?_)
  have I2 : IC (upd g p1.toNatClampNeg (g p1.toNatClampNeg + (1 : Int32))) u2 := by rw [e2]; exact IC_w5 I1 _ _ (by omega) (by omega)
  refine okk_ck (vp_I (by omega) (by omega)) ?_
  refine okk_some ⟨?_, I2⟩
  rw [e2, rdA, if_pos ⟨rfl, rfl⟩]
theorem okk_fcJ_point (I : IC g u) {p1 p2 : Int32} : okk (fcJ_point u p1 p2) (fun r => ((r.1 = 1 ∧ ¬ (0 ≤ p1.toInt ∧ p1.toInt ≤ 7)) ∧ IC g r.2.2) ∨ ((r.1 = 2 ∧ (0 ≤ p1.toInt ∧ p1.toInt ≤ 7) ∧ ¬ (0 ≤ p2.toInt ∧ p2.toInt ≤ 99999999)) ∧ IC g r.2.2) ∨ ((r.1 = 4 ∧ (0 ≤ p1.toInt ∧ p1.toInt ≤ 7) ∧ (0 ≤ p2.toInt ∧ p2.toInt ≤ 99999999) ∧ 8 ≤ (g p1.toNatClampNeg).toInt) ∧ IC g r.2.2) ∨ ((r.1 = 0 ∧ (0 ≤ p1.toInt ∧ p1.toInt ≤ 7) ∧ (0 ≤ p2.toInt ∧ p2.toInt ≤ 99999999) ∧ (g p1.toNatClampNeg).toInt ≤ 7) ∧ r.2.1 = g p1.toNatClampNeg + (1 : Int32) ∧ IC (upd g p1.toNatClampNeg (g p1.toNatClampNeg + (1 : Int32))) r.2.2)) := by
  unfold fcJ_point
  have t8 : (8 : Int32).toInt = 8 := by decide
  have tP : (100000000 : Int32).toInt = 100000000 := by decide
  have eg := IC_g I p1.toNatClampNeg
  rw [eg]
  refine okk_isBelow (fun b => ?_) (fun b => ?_)
  · refine okk_bs (v := (0 : Nat)) (by decide) ?_
    refine okk_t (by decide) ?_
    refine okk_isBelow (fun b2 => ?_) (fun b2 => ?_)
    · refine okk_bs (v := (0 : Nat)) (by decide) ?_
      refine okk_t (by decide) ?_
      refine okk_ck (vp_I (by omega) (by omega)) ?_
      refine okk_le (fun c cI => ?_) (fun c cI => ?_)
      · unfold fcJ_point_37
        refine okk_bs (v := (4 : Nat)) (by decide) ?_
        refine okk_f (by decide) ?_
        exact okk_some (Or.inr (Or.inr (Or.inl ⟨⟨rfl, by omega, by omega, by omega⟩, I⟩)))
      · unfold fcJ_point_37
        refine okk_bs (v := (0 : Nat)) (by decide) ?_
        refine okk_t (by decide) ?_
        refine okk_bi (okk_fcR_append I (by omega) (by omega) (by omega)) (fun v hv => ?_)
        exact okk_some (Or.inr (Or.inr (Or.inr ⟨⟨rfl, by omega, by omega, by omega⟩, hv.1, hv.2⟩)))
    · refine okk_bs (v := (2 : Nat)) (by decide) ?_
      refine okk_f (by decide) ?_
      exact okk_some (Or.inr (Or.inl ⟨⟨rfl, by omega, by omega⟩, I⟩))
  · refine okk_bs (v := (1 : Nat)) (by decide) ?_
    refine okk_f (by decide) ?_
    exact okk_some (Or.inl ⟨⟨rfl, by omega⟩, I⟩)
theorem okk_mpt (I : IM g u) {x1 x2 : Int32} (h0 : 0 ≤ x1.toInt) (h1 : x1.toInt ≤ 7) (h2 : (g x1.toNatClampNeg).toInt ≤ 7) : okk (fm_point_59 u x1 x2 (0 : Int32) (0 : Int32) (0 : Int32)) (fun r => (r.2.1 0).toInt = 0 ∧ r.1 = g x1.toNatClampNeg + (1 : Int32) ∧ IM (upd g x1.toNatClampNeg (g x1.toNatClampNeg + (1 : Int32))) r.2) := by
  unfold fm_point_59
  obtain ⟨w, ew⟩ : ∃ y, y = g_sI u 0 (0 : Int32) := ⟨_, rfl⟩
  refine okk_bs (v := ((0 : Int32), w)) (by rw [ew]; exact fm_thr_0 _) ?_
  dsimp only
  have I0 : IM g w := by rw [ew]; exact IM_ix I _ (by decide)
  have a0 : (w.1 0).toInt = 0 := by rw [ew, rdI, if_pos rfl]; decide
  refine okk_t (by decide) ?_
  have eg := IM_g I0 x1.toNatClampNeg
  have r := IM_r5 I0 x1.toNatClampNeg
  rw [eg] at r ⊢
  have t : ((8 : Int32) * x1).toInt = 8 * x1.toInt := oi_mul (by decide) rfl (by omega) (by omega)
  have t2 : (((8 : Int32) * x1) + g x1.toNatClampNeg).toInt = 8 * x1.toInt + (g x1.toNatClampNeg).toInt := oi_add t rfl (by omega) (by omega)
  have t3 : (g x1.toNatClampNeg + (1 : Int32)).toInt = (g x1.toNatClampNeg).toInt + 1 := oi_add rfl (by decide) (by omega) (by omega)
  refine okk_ck (vp_I (by omega) (by omega)) ?_
  refine okk_ck (vp_I (by omega) (by omega)) ?_
  refine okk_gl (fun u1 e1 => ?_)
  have I1 : IM g u1 := by rw [e1]; exact IM_wx I0 6 _ _ rfl rfl (by decide)
  have eg1 := IM_g I1 x1.toNatClampNeg
  rw [eg1]
  refine okk_ck (vp_I (by omega) (by omega)) ?_
  refine okk_ck (vp_I (by omega) (by omega)) ?_
  refine okk_gl (fun u2 e2 => ?_)
  have I2 : IM (upd g x1.toNatClampNeg (g x1.toNatClampNeg + (1 : Int32))) u2 := by rw [e2]; exact IM_w5 I1 _ _ (by omega) (by omega)
  refine okk_ck (vp_I (by omega) (by omega)) ?_
  refine okk_some ⟨?_, ?_, I2⟩
  · rw [e2, e1]; exact a0
  · rw [e2, rdA, if_pos ⟨rfl, rfl⟩]
theorem okk_mpx (I : IM g u) {x1 x2 y1 y2 y3 : Int32} {k : Int32} {n : Int} (hk : fm_throwing u y1 y2 y3 = some ((1 : Int32), g_sI u 0 k)) (hn : k.toInt = n) : okk (fm_point_59 u x1 x2 y1 y2 y3) (fun r => (r.2.1 0).toInt = n ∧ IM g r.2) := by
  unfold fm_point_59
  refine okk_bs hk ?_
  dsimp only
  refine okk_f (by decide) ?_
  refine okk_some ⟨?_, IM_ix I _ (by decide)⟩
  rw [rdI, if_pos rfl]; exact hn
theorem okk_fm_point (I : IM g u) {p1 p2 : Int32} : okk (fm_point u p1 p2) (fun r => (((r.2.1 0).toInt = 1 ∧ ¬ (0 ≤ p1.toInt ∧ p1.toInt ≤ 7)) ∧ IM g r.2) ∨ (((r.2.1 0).toInt = 2 ∧ (0 ≤ p1.toInt ∧ p1.toInt ≤ 7) ∧ ¬ (0 ≤ p2.toInt ∧ p2.toInt ≤ 99999999)) ∧ IM g r.2) ∨ (((r.2.1 0).toInt = 3 ∧ (0 ≤ p1.toInt ∧ p1.toInt ≤ 7) ∧ (0 ≤ p2.toInt ∧ p2.toInt ≤ 99999999) ∧ 8 ≤ (g p1.toNatClampNeg).toInt) ∧ IM g r.2) ∨ (((r.2.1 0).toInt = 0 ∧ (0 ≤ p1.toInt ∧ p1.toInt ≤ 7) ∧ (0 ≤ p2.toInt ∧ p2.toInt ≤ 99999999) ∧ (g p1.toNatClampNeg).toInt ≤ 7) ∧ r.1 = g p1.toNatClampNeg + (1 : Int32) ∧ IM (upd g p1.toNatClampNeg (g p1.toNatClampNeg + (1 : Int32))) r.2)) := by
  unfold fm_point
  have t8 : (8 : Int32).toInt = 8 := by decide
  have eg := IM_g I p1.toNatClampNeg
  have r := IM_r5 I p1.toNatClampNeg
  rw [eg] at r
  refine okk_isRoad (fun b => ?_) (fun b => ?_)
  · refine okk_t (by decide) ?_
    unfold fm_point_13
    refine okk_isPoint (fun b2 => ?_) (fun b2 => ?_)
    · refine okk_t (by decide) ?_
      unfold fm_point_25
      refine okk_isRoad (fun _ => ?_) (fun b3 => absurd b3 (by omega))
      refine okk_f (by decide) ?_
      refine okk_isRoad (fun _ => ?_) (fun b3 => absurd b3 (by omega))
      refine okk_f (by decide) ?_
      unfold fm_point_48
      rw [eg]
      refine okk_ck (vp_I (by omega) (by omega)) ?_
      refine okk_ne (fun c cI => ?_) (fun c cI => ?_)
      · refine okk_mono (okk_mpt I (by omega) (by omega) (by omega)) (fun r hr => ?_)
        exact Or.inr (Or.inr (Or.inr ⟨⟨hr.1, b, b2, by omega⟩, hr.2.1, hr.2.2⟩))
      · refine okk_mono (okk_mpx I (fm_thr_3 u) (by decide : (3 : Int32).toInt = 3)) (fun r hr => ?_)
        exact Or.inr (Or.inr (Or.inl ⟨⟨hr.1, b, b2, by omega⟩, hr.2⟩))
    · refine okk_f (by decide) ?_
      unfold fm_point_25
      refine okk_isRoad (fun _ => ?_) (fun b3 => absurd b3 (by omega))
      refine okk_f (by decide) ?_
      refine okk_isRoad (fun _ => ?_) (fun b3 => absurd b3 (by omega))
      refine okk_f (by decide) ?_
      unfold fm_point_48
      rw [eg]
      refine okk_ck (vp_I (by omega) (by omega)) ?_
      refine okk_ne (fun c cI => ?_) (fun c cI => ?_)
      · refine okk_mono (okk_mpx I (fm_thr_2 u _) (by decide : (2 : Int32).toInt = 2)) (fun r hr => ?_)
        exact Or.inr (Or.inl ⟨⟨hr.1, b, by omega⟩, hr.2⟩)
      · refine okk_mono (okk_mpx I (fm_thr_2 u _) (by decide : (2 : Int32).toInt = 2)) (fun r hr => ?_)
        exact Or.inr (Or.inl ⟨⟨hr.1, b, by omega⟩, hr.2⟩)
  · refine okk_f (by decide) ?_
    unfold fm_point_13
    refine okk_isPoint (fun b2 => ?_) (fun b2 => ?_)
    · refine okk_t (by decide) ?_
      unfold fm_point_25
      refine okk_isRoad (fun b3 => absurd b3 (by omega)) (fun _ => ?_)
      refine okk_t (by decide) ?_
      refine okk_mono (okk_mpx I (fm_thr_1 u _ _) (by decide : (1 : Int32).toInt = 1)) (fun r hr => ?_)
      exact Or.inl ⟨⟨hr.1, by omega⟩, hr.2⟩
    · refine okk_f (by decide) ?_
      unfold fm_point_25
      refine okk_isRoad (fun b3 => absurd b3 (by omega)) (fun _ => ?_)
      refine okk_t (by decide) ?_
      refine okk_mono (okk_mpx I (fm_thr_1 u _ _) (by decide : (1 : Int32).toInt = 1)) (fun r hr => ?_)
      exact Or.inl ⟨⟨hr.1, by omega⟩, hr.2⟩
end HN3
