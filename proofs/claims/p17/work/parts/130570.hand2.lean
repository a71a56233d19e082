section HN2
variable {g : Nat → Int32} {u : g_S}
theorem okk_fm_onStretch_3 (I : IM g u) : ∀ (n : Nat) (x1 x2 x3 x4 : Int32), 0 ≤ x4.toInt → x4.toInt ≤ 60 → 61 ≤ (n : Int) + x4.toInt → okk (fm_onStretch_3 u n x1 x2 x3 x4) (fun r => (-1 ≤ r.toInt ∧ r.toInt < (u.1 1).toInt)) := by
  have z0 : (0 : Int32).toInt = 0 := by decide
  have zm : (-1 : Int32).toInt = -1 := by decide
  have z := IM_s I
  intro n
  induction n with
  | zero =>
    intro x1 x2 x3 x4 h0 h1 hf
    exfalso; omega
  | succ n ih =>
    intro x1 x2 x3 x4 h0 h1 hf
    rw [fm_onStretch_3_s]
    refine okk_le (fun c cI => ?_) (fun c cI => ?_)
    · exact okk_some ⟨by omega, by omega⟩
    · have t : (x4 + (1 : Int32)).toInt = x4.toInt + 1 := oi_add rfl (by decide) (by omega) (by omega)
      have hrec := ih x1 x2 x3 (x4 + (1 : Int32)) (by omega) (by omega) (by omega)
      refine okk_ck (vp_I (by omega) (by omega)) ?_
      refine okk_ne (fun d dI => okk_t (by decide) hrec) (fun d dI => ?_)
      refine okk_ck (vp_I (by omega) (by omega)) ?_
      have w := IM_r17 I x4.toNatClampNeg
      refine okk_lt (fun f fI => okk_t (by decide) hrec) (fun f fI => ?_)
      have ho := okk_firstO I (e := x4) (by omega) (by omega) (by rw [d]; decide)
      refine okk_bi ho (fun v hv => ?_)
      obtain ⟨b1, b2, b3, b4⟩ := hv
      refine okk_ck (vp_I (by omega) (by omega)) ?_
      refine okk_ne (fun _ _ => okk_t (by decide) hrec) (fun _ _ => ?_)
      refine okk_f (by decide) ?_
      refine okk_bi (okk_fm_isOn I (by omega) (by omega) (by omega)) (fun v8 _ => ?_)
      refine okk_eq (fun _ _ => hrec) (fun _ _ => ?_)
      refine okk_bi ho (fun v9 hv9 => ?_)
      exact okk_some ⟨by have := hv9.1; omega, hv9.2.1⟩
theorem okk_fm_onStretch (I : IM g u) {p1 p2 p3 : Int32} : okk (fm_onStretch u p1 p2 p3) (fun r => (-1 ≤ r.toInt ∧ r.toInt < (u.1 1).toInt)) := by
  have z0 : (0 : Int32).toInt = 0 := by decide
  unfold fm_onStretch
  exact okk_fm_onStretch_3 I 200 p1 p2 p3 (0 : Int32) (by omega) (by omega) (by omega)
theorem fm_new_eq (u : g_S) (h0 : 0 ≤ (u.1 2).toInt) (h1 : (u.1 2).toInt ≤ 59) : fm_newEvent u = some (((u.1 2) + (1 : Int32)) - (1 : Int32), g_sI (g_sA (g_sA u 16 (u.1 2) (0 : Int32)) 17 (u.1 2) (-1 : Int32)) 2 ((u.1 2) + (1 : Int32))) := by
  unfold fm_newEvent
  rw [ck_in (i := u.1 2) (n := 60) (vp_I (by omega) (by omega))]
  show ck (u.1 2) 60 _ = _
  rw [ck_in (i := u.1 2) (n := 60) (vp_I (by omega) (by omega))]
  rfl
theorem IM_new (I : IM g u) {c v2 vE v1 : Int32} (hc : c.toInt = (u.1 1).toInt) (h1 : (u.1 1).toInt ≤ 119) (h2 : (u.1 2).toInt ≤ 59) (hr : (u.2 13 c.toNatClampNeg).toInt < 0) (e2 : v2.toInt = (u.1 2).toInt + 1) (eE : vE.toInt = (u.1 2).toInt) (e1 : v1.toInt = (u.1 1).toInt + 1) :
    IM g (g_sI (g_sA (g_sI (g_sA (g_sA u 16 (u.1 2) (0 : Int32)) 17 (u.1 2) (-1 : Int32)) 2 v2) 12 c vE) 1 v1) := by
  have hs := IM_s I
  have hcl : (c.toNatClampNeg : Int) = c.toInt := cl_I (by omega)
  have hel : ((u.1 2).toNatClampNeg : Int) = (u.1 2).toInt := cl_I (by omega)
  have I1 : IM g (g_sA u 16 (u.1 2) (0 : Int32)) := IM_w16b I _ _ (by omega)
  have I2 : IM g (g_sA (g_sA u 16 (u.1 2) (0 : Int32)) 17 (u.1 2) (-1 : Int32)) := IM_v17 I1 _ _ (by decide) (by decide)
  have hr2 : ((g_sA (g_sA u 16 (u.1 2) (0 : Int32)) 17 (u.1 2) (-1 : Int32)).2 13 c.toNatClampNeg).toInt < 0 := by
    rw [eq_w 17 _ _ 13 _ (by decide), eq_w 16 _ _ 13 _ (by decide)]; exact hr
  have w1 : (g_sA (g_sA u 16 (u.1 2) (0 : Int32)) 17 (u.1 2) (-1 : Int32)).1 = u.1 := rfl
  generalize g_sA (g_sA u 16 (u.1 2) (0 : Int32)) 17 (u.1 2) (-1 : Int32) = w at I2 hr2 w1 ⊢
  have k1 : (w.1 1).toInt = (u.1 1).toInt := by rw [w1]
  have k2 : (w.1 2).toInt = (u.1 2).toInt := by rw [w1]
  refine ⟨?_, ?_, ⟨?_, ?_⟩, ?_⟩
  · show 0 ≤ v1.toInt ∧ v1.toInt ≤ 120 ∧ 0 ≤ v2.toInt ∧ v2.toInt ≤ 60
    omega
  · exact rg_w (lo := loM) (hi := hiM) (u := g_sI w 2 v2) I2.2.1 12 c vE (show (0 : Int) ≤ vE.toInt by omega) (show vE.toInt ≤ (59 : Int) by omega)
  · intro e he q
    have he : (e : Int) < v2.toInt := he
    have q : ¬ (g_sA (g_sI w 2 v2) 12 c vE).2 16 e = 3 := q
    rw [eq_w 12 c vE 16 e (by decide)] at q
    have q : ¬ w.2 16 e = 3 := q
    by_cases z : (e : Int) = (u.1 2).toInt
    · refine ⟨c.toNatClampNeg, ?_, ?_, ?_⟩
      · show (c.toNatClampNeg : Int) < v1.toInt
        omega
      · show ((g_sA (g_sI w 2 v2) 12 c vE).2 12 c.toNatClampNeg).toInt = e
        rw [rdA, if_pos ⟨rfl, rfl⟩]; omega
      · show ((g_sA (g_sI w 2 v2) 12 c vE).2 13 c.toNatClampNeg).toInt < 0
        rw [eq_w 12 c vE 13 _ (by decide)]; exact hr2
    · obtain ⟨d, a1, a2, a3⟩ := IM_f I2 e (by omega) q
      refine ⟨d, ?_, ?_, ?_⟩
      · show (d : Int) < v1.toInt
        omega
      · show ((g_sA (g_sI w 2 v2) 12 c vE).2 12 d).toInt = e
        rw [rdA, if_neg (fun y => by have := y.2; omega)]; exact a2
      · show ((g_sA (g_sI w 2 v2) 12 c vE).2 13 d).toInt < 0
        rw [eq_w 12 c vE 13 _ (by decide)]; exact a3
  · intro d hd
    have hd : (d : Int) < v1.toInt := hd
    show ((g_sA (g_sI w 2 v2) 12 c vE).2 12 d).toInt < v2.toInt
    rw [rdA]
    by_cases y : 12 = 12 ∧ d = c.toNatClampNeg
    · rw [if_pos y]; omega
    · rw [if_neg y]
      have y2 : ¬ d = c.toNatClampNeg := fun q => y ⟨rfl, q⟩
      have := IM_e I2 d (by omega)
      show (w.2 12 d).toInt < v2.toInt
      omega
  · intro j
    show (g_sA (g_sI w 2 v2) 12 c vE).2 5 j = g j
    rw [eq_w 12 c vE 5 j (by decide)]; exact IM_g I2 j
theorem IM_spl (I : IM g u) {x v2 vE : Int32} (h0 : 0 ≤ x.toInt) (h1 : x.toInt < (u.1 1).toInt) (hr : 0 ≤ (u.2 13 x.toNatClampNeg).toInt) (h2 : (u.1 2).toInt ≤ 59) (e2 : v2.toInt = (u.1 2).toInt + 1) (eE : vE.toInt = (u.1 2).toInt) :
    IM g (g_sA (g_sA (g_sA (g_sI (g_sA (g_sA u 16 (u.1 2) (0 : Int32)) 17 (u.1 2) (-1 : Int32)) 2 v2) 13 x (-1 : Int32)) 15 x (0 : Int32)) 12 x vE) := by
  have hs := IM_s I
  have hcl : (x.toNatClampNeg : Int) = x.toInt := cl_I (by omega)
  have hel : ((u.1 2).toNatClampNeg : Int) = (u.1 2).toInt := cl_I (by omega)
  have I1 : IM g (g_sA u 16 (u.1 2) (0 : Int32)) := IM_w16b I _ _ (by omega)
  have I2 : IM g (g_sA (g_sA u 16 (u.1 2) (0 : Int32)) 17 (u.1 2) (-1 : Int32)) := IM_v17 I1 _ _ (by decide) (by decide)
  have hr2 : 0 ≤ ((g_sA (g_sA u 16 (u.1 2) (0 : Int32)) 17 (u.1 2) (-1 : Int32)).2 13 x.toNatClampNeg).toInt := by
    rw [eq_w 17 _ _ 13 _ (by decide), eq_w 16 _ _ 13 _ (by decide)]; exact hr
  have w1 : (g_sA (g_sA u 16 (u.1 2) (0 : Int32)) 17 (u.1 2) (-1 : Int32)).1 = u.1 := rfl
  generalize g_sA (g_sA u 16 (u.1 2) (0 : Int32)) 17 (u.1 2) (-1 : Int32) = w at I2 hr2 w1 ⊢
  have k1 : (w.1 1).toInt = (u.1 1).toInt := by rw [w1]
  have k2 : (w.1 2).toInt = (u.1 2).toInt := by rw [w1]
  have r13 : rg_ok loM hiM (g_sA (g_sI w 2 v2) 13 x (-1 : Int32)) := rg_w (lo := loM) (hi := hiM) (u := g_sI w 2 v2) I2.2.1 13 x (-1 : Int32) (by decide) (by decide)
  have r15 : rg_ok loM hiM (g_sA (g_sA (g_sI w 2 v2) 13 x (-1 : Int32)) 15 x (0 : Int32)) := rg_w (lo := loM) (hi := hiM) r13 15 x (0 : Int32) (by decide) (by decide)
  have rd12 : ∀ d, (g_sA (g_sA (g_sA (g_sI w 2 v2) 13 x (-1 : Int32)) 15 x (0 : Int32)) 12 x vE).2 12 d = if d = x.toNatClampNeg then vE else w.2 12 d := by
    intro d
    rw [rdA]
    by_cases y : d = x.toNatClampNeg
    · rw [if_pos ⟨rfl, y⟩, if_pos y]
    · rw [if_neg (fun q => y q.2), if_neg y, eq_w 15 _ _ 12 _ (by decide), eq_w 13 _ _ 12 _ (by decide)]; rfl
  have rd13 : ∀ d, (g_sA (g_sA (g_sA (g_sI w 2 v2) 13 x (-1 : Int32)) 15 x (0 : Int32)) 12 x vE).2 13 d = if d = x.toNatClampNeg then (-1 : Int32) else w.2 13 d := by
    intro d
    rw [eq_w 12 _ _ 13 _ (by decide), eq_w 15 _ _ 13 _ (by decide), rdA]
    by_cases y : d = x.toNatClampNeg
    · rw [if_pos ⟨rfl, y⟩, if_pos y]
    · rw [if_neg (fun q => y q.2), if_neg y]; rfl
  refine ⟨?_, rg_w (lo := loM) (hi := hiM) r15 12 x vE (show (0 : Int) ≤ vE.toInt by omega) (show vE.toInt ≤ (59 : Int) by omega), ⟨?_, ?_⟩, ?_⟩
  · show 0 ≤ (w.1 1).toInt ∧ (w.1 1).toInt ≤ 120 ∧ 0 ≤ v2.toInt ∧ v2.toInt ≤ 60
    omega
  · intro e he q
    have he : (e : Int) < v2.toInt := he
    rw [eq_w 12 _ _ 16 e (by decide), eq_w 15 _ _ 16 e (by decide), eq_w 13 _ _ 16 e (by decide)] at q
    have q : ¬ w.2 16 e = 3 := q
    by_cases z : (e : Int) = (u.1 2).toInt
    · refine ⟨x.toNatClampNeg, ?_, ?_, ?_⟩
      · show (x.toNatClampNeg : Int) < (w.1 1).toInt
        omega
      · rw [rd12, if_pos rfl]; omega
      · rw [rd13, if_pos rfl]; decide
    · obtain ⟨d, a1, a2, a3⟩ := IM_f I2 e (by omega) q
      have y : ¬ d = x.toNatClampNeg := fun q => by rw [q] at a3; omega
      exact ⟨d, a1, by rw [rd12, if_neg y]; exact a2, by rw [rd13, if_neg y]; exact a3⟩
  · intro d hd
    have hd : (d : Int) < (w.1 1).toInt := hd
    show _ < v2.toInt
    rw [rd12]
    by_cases y : d = x.toNatClampNeg
    · rw [if_pos y]; omega
    · rw [if_neg y]
      have := IM_e I2 d hd
      omega
  · intro j
    rw [eq_w 12 _ _ 5 j (by decide), eq_w 15 _ _ 5 j (by decide), eq_w 13 _ _ 5 j (by decide)]; exact IM_g I2 j
def mu_ (f : Nat → Int32) (b : Int32) : Nat → Nat
  | 0 => 0
  | k + 1 => mu_ f b k + (if f k = b then 1 else 0)
theorem mu_s (f : Nat → Int32) (b : Int32) (k : Nat) : mu_ f b (k + 1) = mu_ f b k + (if f k = b then 1 else 0) := rfl
theorem mu_le (f : Nat → Int32) (b : Int32) : ∀ k, mu_ f b k ≤ k := by
  intro k
  induction k with
  | zero => exact Nat.le_refl _
  | succ k ih =>
    rw [mu_s]
    by_cases h : f k = b
    · rw [if_pos h]; omega
    · rw [if_neg h]; omega
theorem mu_ext (f f' : Nat → Int32) (b : Int32) : ∀ k, (∀ j, j < k → f' j = f j) → mu_ f' b k = mu_ f b k := by
  intro k
  induction k with
  | zero => intro _; rfl
  | succ k ih => intro h; rw [mu_s, mu_s, ih (fun j hj => h j (by omega)), h k (by omega)]
theorem mu_dec (f f' : Nat → Int32) (b : Int32) (i : Nat) (h1 : f i = b) (h2 : ¬ f' i = b) (h3 : ∀ j, ¬ j = i → f' j = f j) : ∀ k, i < k → mu_ f' b k + 1 = mu_ f b k := by
  intro k
  induction k with
  | zero => intro h; omega
  | succ k ih =>
    intro h
    rw [mu_s, mu_s]
    by_cases e : i = k
    · subst e
      rw [if_pos h1, if_neg h2, mu_ext f f' b i (fun j hj => h3 j (by omega))]
    · rw [h3 k (fun q => e q.symm)]
      have := ih (by omega)
      omega
theorem okk_split124 {x4 x5 : Int32} {k : g_S → Int32 → Int32 → Int32 → Option (Int32 × g_S)} {m : Nat} {Q : Int32 × g_S → Prop} (h4 : 0 ≤ x4.toInt) (h5 : x4.toInt ≤ 59) (hne : ¬ x4 = x5) (hk : ∀ (u : g_S) (x6 : Int32), IM g u → x4.toInt < (u.1 2).toInt → (x6 = 0 ∨ (x6 = 1 ∧ mu_ (u.2 12) x5 120 < m)) → okk (k u x4 x5 x6) Q) :
    ∀ (n : Nat) (u : g_S) (x6 x7 : Int32), IM g u → x4.toInt < (u.1 2).toInt → 0 ≤ x7.toInt → x7.toInt ≤ 120 → 121 ≤ (n : Int) + x7.toInt → ((x6 = 0 ∧ mu_ (u.2 12) x5 120 ≤ m) ∨ (x6 = 1 ∧ mu_ (u.2 12) x5 120 < m)) → okk (fm_split_124 k n u x4 x5 x6 x7) Q := by
  have z0 : (0 : Int32).toInt = 0 := by decide
  intro n
  induction n with
  | zero =>
    intro u x6 x7 I h9 h0 h1 hf hm
    exfalso; omega
  | succ n ih =>
    intro u x6 x7 I h9 h0 h1 hf hm
    rw [fm_split_124_s]
    have z := IM_s I
    refine okk_le (fun c cI => ?_) (fun c cI => ?_)
    · exact hk u x6 I h9 (hm.imp (fun q => q.1) id)
    · have t : (x7 + (1 : Int32)).toInt = x7.toInt + 1 := oi_add rfl (by decide) (by omega) (by omega)
      have hrec := ih u x6 (x7 + (1 : Int32)) I h9 (by omega) (by omega) (by omega) hm
      have hr := IM_r13 I x7.toNatClampNeg
      refine okk_ck (vp_I (by omega) (by omega)) ?_
      refine okk_ne (fun _ _ => hrec) (fun d dI => ?_)
      refine okk_ck (vp_I (by omega) (by omega)) ?_
      refine okk_lt (fun _ _ => hrec) (fun f fI => ?_)
      refine okk_ck (vp_I (by omega) (by omega)) ?_
      refine okk_ck (vp_I (by omega) (by omega)) ?_
      refine okk_ne (fun _ _ => hrec) (fun _ _ => ?_)
      refine okk_ck (vp_I (by omega) (by omega)) ?_
      refine okk_gl (fun u8 e8 => ?_)
      have I8 : IM g u8 := by rw [e8]; exact IM_w12c I _ _ h4 h5 h9 (by omega)
      have h98 : x4.toInt < (u8.1 2).toInt := by rw [e8]; exact h9
      have hcl : (x7.toNatClampNeg : Int) = x7.toInt := cl_I (by omega)
      have hd : mu_ (u8.2 12) x5 120 + 1 = mu_ (u.2 12) x5 120 := by
        rw [e8]
        refine mu_dec (u.2 12) _ x5 x7.toNatClampNeg d ?_ ?_ 120 (by omega)
        · rw [rdA, if_pos ⟨rfl, rfl⟩]; exact hne
        · intro j hj
          rw [rdA, if_neg (fun y => hj y.2)]
      have hm2 : mu_ (u8.2 12) x5 120 < m := by
        rcases hm with q | q
        · have := q.2; omega
        · have := q.2; omega
      exact ih u8 (1 : Int32) (x7 + (1 : Int32)) I8 h98 (by omega) (by omega) (by omega) (Or.inr ⟨rfl, hm2⟩)
theorem okk_split113 {x4 x5 : Int32} (h4 : 0 ≤ x4.toInt) (h5 : x4.toInt ≤ 59) (hne : ¬ x4 = x5) : ∀ (n : Nat) (u : g_S) (x6 : Int32), IM g u → x4.toInt < (u.1 2).toInt → ((x6 = 0 ∧ 1 ≤ n) ∨ (x6 = 1 ∧ mu_ (u.2 12) x5 120 + 2 ≤ n)) → okk (fm_split_113 n u x4 x5 x6) (fun r => IM g r.2) := by
  have z0 : (0 : Int32).toInt = 0 := by decide
  intro n
  induction n with
  | zero =>
    intro u x6 I h9 h
    exfalso
    rcases h with q | q
    · have := q.2; omega
    · have := q.2; omega
  | succ n ih =>
    intro u x6 I h9 h
    rw [fm_split_113_s]
    refine okk_eq (fun c cI => ?_) (fun c cI => ?_)
    · exact okk_some I
    · have h1 : mu_ (u.2 12) x5 120 + 2 ≤ n + 1 := by
        rcases h with q | q
        · exact absurd q.1 c
        · exact q.2
      refine okk_split124 (m := mu_ (u.2 12) x5 120) h4 h5 hne (fun u' x6' I' h9' h' => ih u' x6' I' h9' ?_) 200 u (0 : Int32) (0 : Int32) I h9 (by omega) (by omega) (by omega) (Or.inl ⟨rfl, Nat.le_refl _⟩)
      rcases h' with q | q
      · exact Or.inl ⟨q, by omega⟩
      · exact Or.inr ⟨q.1, by have := q.2; omega⟩
theorem okk_split66 (I : IM g u) {x1 : Int32} (h0 : 0 ≤ x1.toInt) (h1 : x1.toInt < (u.1 1).toInt) (hr : 0 ≤ (u.2 13 x1.toNatClampNeg).toInt) (h2 : (u.1 2).toInt ≤ 59) : okk (fm_split_66 u x1 (0 : Int32) (0 : Int32) (0 : Int32)) (fun r => IM g r.2) := by
  unfold fm_split_66
  obtain ⟨w, ew⟩ : ∃ y, y = g_sI u 0 (0 : Int32) := ⟨_, rfl⟩
  refine okk_bs (v := ((0 : Int32), w)) (by rw [ew]; exact fm_thr_0 _) ?_
  dsimp only
  have I0 : IM g w := by rw [ew]; exact IM_ix I _ (by decide)
  have a1 : w.1 1 = u.1 1 := by rw [ew]; rfl
  have a2 : w.1 2 = u.1 2 := by rw [ew]; rfl
  have a3 : w.2 = u.2 := by rw [ew]; rfl
  rw [← a1] at h1
  rw [← a2] at h2
  rw [← a3] at hr
  clear ew a1 a2 a3
  have hs := IM_s I0
  have hcl : (x1.toNatClampNeg : Int) = x1.toInt := cl_I (by omega)
  refine okk_t (by decide) ?_
  refine okk_bs (fm_new_eq w (by omega) (by omega)) ?_
  dsimp only
  have t2 : ((w.1 2) + (1 : Int32)).toInt = (w.1 2).toInt + 1 := oi_add rfl (by decide) (by omega) (by omega)
  have tE : (((w.1 2) + (1 : Int32)) - (1 : Int32)).toInt = (w.1 2).toInt := by
    rw [oi_sub t2 (by decide : (1 : Int32).toInt = 1) (by omega) (by omega)]; omega
  have hev := IM_e I0 x1.toNatClampNeg (by omega)
  generalize ((w.1 2) + (1 : Int32)) - (1 : Int32) = vE at tE ⊢
  generalize (w.1 2) + (1 : Int32) = v2 at t2 ⊢
  refine okk_ck (vp_I (by omega) (by omega)) ?_
  refine okk_gl (fun b4 e4 => ?_)
  refine okk_ck (vp_I (by omega) (by omega)) ?_
  refine okk_gl (fun b5 e5 => ?_)
  refine okk_ck (vp_I (by omega) (by omega)) ?_
  refine okk_gl (fun was e6 => ?_)
  refine okk_ck (vp_I (by omega) (by omega)) ?_
  refine okk_gl (fun b7 e7 => ?_)
  have I7 : IM g b7 := by rw [e7, e5, e4]; exact IM_spl I0 h0 h1 hr h2 t2 tE
  have hw : was = w.2 12 x1.toNatClampNeg := by
    rw [e6, e5, e4, eq_w 15 _ _ 12 _ (by decide), eq_w 13 _ _ 12 _ (by decide)]
    show (g_sA (g_sA w 16 (w.1 2) (0 : Int32)) 17 (w.1 2) (-1 : Int32)).2 12 x1.toNatClampNeg = _
    rw [eq_w 17 _ _ 12 _ (by decide), eq_w 16 _ _ 12 _ (by decide)]
  have h7 : vE.toInt < (b7.1 2).toInt := by
    rw [e7, e5, e4]
    show vE.toInt < v2.toInt
    omega
  have hne : ¬ vE = was := fun q => by
    rw [hw] at q
    rw [← q] at hev; omega
  exact okk_split113 (by omega) (by omega) hne 200 b7 (1 : Int32) I7 h7 (Or.inr ⟨rfl, by have := mu_le (b7.2 12) was 120; omega⟩)
end HN2
