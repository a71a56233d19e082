def und (f : Nat → Int32) (top : Int32) : Nat → Int32 → Bool
  | 0, _ => false
  | n + 1, a => if a = -1 then false else if a = top then true else und f top n (f a.toNatClampNeg)
theorem und_s (f : Nat → Int32) (top : Int32) (n : Nat) (a : Int32) : und f top (n + 1) a = if a = -1 then false else if a = top then true else und f top n (f a.toNatClampNeg) := rfl
theorem und_m {f : Nat → Int32} {top : Int32} : ∀ {n : Nat} {a : Int32}, und f top n a = true → und f top (n + 1) a = true := by
  intro n
  induction n with
  | zero => intro a h; cases h
  | succ n ih =>
    intro a h
    rw [und_s] at h ⊢
    by_cases q : a = -1
    · rw [if_pos q] at h; cases h
    · rw [if_neg q] at h ⊢
      by_cases q2 : a = top
      · rw [if_pos q2]
      · rw [if_neg q2] at h ⊢; exact ih h
theorem und_le {f : Nat → Int32} {top : Int32} {n m : Nat} {a : Int32} (h : n ≤ m) (hu : und f top n a = true) : und f top m a = true := by
  induction m with
  | zero => obtain rfl : n = 0 := by omega
            exact hu
  | succ m ih =>
    rcases Nat.lt_or_ge n (m + 1) with q | q
    · exact und_m (ih (by omega))
    · obtain rfl : n = m + 1 := by omega
      exact hu
theorem und_c {f f' : Nat → Int32} {t : Nat} (ht : t < 2 ^ 31) (h : ∀ j, ¬ j = t → f j = f' j) : ∀ (n : Nat) (a : Int32), -1 ≤ a.toInt → (∀ j, -1 ≤ (f j).toInt) → und f (nI t) n a = und f' (nI t) n a := by
  have zm : (-1 : Int32).toInt = -1 := by decide
  intro n
  induction n with
  | zero => intro a _ _; rfl
  | succ n ih =>
    intro a ha hf
    rw [und_s, und_s]
    by_cases q : a = -1
    · rw [if_pos q, if_pos q]
    · rw [if_neg q, if_neg q]
      by_cases q2 : a = nI t
      · rw [if_pos q2, if_pos q2]
      · have hc : (a.toNatClampNeg : Int) = a.toInt := cl_I (by
          rcases Int.lt_or_le a.toInt 0 with y | y
          · exact absurd (Int32.toInt_inj.mp (by omega)) q
          · exact y)
        have hne : ¬ a.toNatClampNeg = t := fun y => q2 (Int32.toInt_inj.mp (by rw [nI_toInt ht]; omega))
        rw [if_neg q2, if_neg q2, h _ hne]
        rw [← h _ hne]
        exact ih _ (hf _) hf
section SPL
variable {g : Nat → Int32} {u w : g_S}
theorem under_c (hr : ∀ j : Nat, -1 ≤ (u.2 14 j).toInt ∧ (u.2 14 j).toInt ≤ 120) (top : Int32) : ∀ (j m : Nat) (a : Int32), j ≤ 120 → j < m → -1 ≤ a.toInt → a.toInt ≤ 120 → fcA_isUnder_5 u m top a (nI (120 - j)) = some (if und (u.2 14) top j a = true then (1 : Int32) else 0) := by
  have zm : (-1 : Int32).toInt = -1 := by decide
  intro j
  induction j with
  | zero =>
    intro m a _ hm _ _
    obtain ⟨m, rfl⟩ : ∃ m', m = m' + 1 := ⟨m - 1, by omega⟩
    rw [fcA_isUnder_5_s, if_pos (by decide)]; rfl
  | succ j ih =>
    intro m a hj hm h1 h2
    obtain ⟨m, rfl⟩ : ∃ m', m = m' + 1 := ⟨m - 1, by omega⟩
    have hlt : ¬ (120 : Int32) ≤ nI (120 - (j + 1)) := nI_ge (a := 120 - (j + 1)) (b := 120) (by omega) (by decide)
    rw [fcA_isUnder_5_s, if_neg hlt, und_s]
    by_cases q : a = -1
    · rw [if_pos q, if_pos q]; rfl
    · have h0 : 0 ≤ a.toInt := by
        rcases Int.lt_or_le a.toInt 0 with y | y
        · exact absurd (Int32.toInt_inj.mp (by omega)) q
        · exact y
      rw [if_neg q, if_neg q]
      by_cases q2 : a = top
      · rw [if_neg (fun y => y q2), if_pos q2]; rfl
      · rw [if_pos q2, if_neg q2, ck_in (vp_I h0 (by omega))]
        show fcA_isUnder_5 u m top (u.2 14 a.toNatClampNeg) (nI (120 - (j + 1)) + (1 : Int32)) = _
        rw [nI_1, show 120 - (j + 1) + 1 = 120 - j by omega]
        exact ih m _ (by omega) (by omega) (hr _).1 (hr _).2
def mvF (ev f : Nat → Int32) (top E : Int32) (n : Nat) : Nat → Int32 := fun d => if d < n ∧ und f top 120 (nI d) = true then E else ev d
def mvS (u : g_S) (top E : Int32) (n : Nat) : g_S := (u.1, va_up u.2 13 (mvF (u.2 13) (u.2 14) top E n))
theorem mvS_o (u : g_S) (top E : Int32) (n k : Nat) (h : ¬ k = 13) : (mvS u top E n).2 k = u.2 k := by
  show va_up u.2 13 _ k = _
  unfold va_up
  rw [if_neg h]
theorem mvS_13 (u : g_S) (top E : Int32) (n : Nat) : (mvS u top E n).2 13 = mvF (u.2 13) (u.2 14) top E n := by
  have h : va_up u.2 13 (mvF (u.2 13) (u.2 14) top E n) 13 = mvF (u.2 13) (u.2 14) top E n := by
    unfold va_up
    rw [if_pos rfl]
  exact h
theorem mvS_0 (u : g_S) (top E : Int32) : mvS u top E 0 = u := by
  have h : (mvS u top E 0).2 = u.2 := by
    funext k
    by_cases q : k = 13
    · rw [q, mvS_13]
      funext d
      unfold mvF
      rw [if_neg (fun y => by have := y.1; omega)]
    · exact mvS_o u top E 0 k q
  exact Prod.ext rfl h
theorem mvS_n {top E : Int32} {n : Nat} (hn : n < 2 ^ 31) (h : und (u.2 14) top 120 (nI n) = true) : g_sA (mvS u top E n) 13 (nI n) E = mvS u top E (n + 1) := by
  have h2 : (g_sA (mvS u top E n) 13 (nI n) E).2 = (mvS u top E (n + 1)).2 := by
    funext k
    by_cases q : k = 13
    · rw [q]
      funext d
      rw [rdA, mvS_13, mvS_13, nI_clamp hn]
      unfold mvF
      by_cases y : d = n
      · rw [if_pos ⟨rfl, y⟩, if_pos ⟨by omega, by rw [y]; exact h⟩]
      · rw [if_neg (fun z => y z.2)]
        by_cases z : d < n ∧ und (u.2 14) top 120 (nI d) = true
        · rw [if_pos z, if_pos ⟨by omega, z.2⟩]
        · rw [if_neg z, if_neg (fun x => z ⟨by omega, x.2⟩)]
    · rw [eqf_w 13 _ _ k q, mvS_o _ _ _ _ k q, mvS_o _ _ _ _ k q]
  exact Prod.ext rfl h2
theorem mvS_k {top E : Int32} {n : Nat} (h : ¬ und (u.2 14) top 120 (nI n) = true) : mvS u top E n = mvS u top E (n + 1) := by
  have h2 : (mvS u top E n).2 = (mvS u top E (n + 1)).2 := by
    funext k
    by_cases q : k = 13
    · rw [q, mvS_13, mvS_13]
      funext d
      unfold mvF
      by_cases z : d < n ∧ und (u.2 14) top 120 (nI d) = true
      · rw [if_pos z, if_pos ⟨by omega, z.2⟩]
      · rw [if_neg z, if_neg (fun x => z ⟨by
          have := x.1
          rcases Nat.lt_or_ge d n with y | y
          · exact y
          · obtain rfl : d = n := by omega
            exact absurd x.2 h, x.2⟩)]
    · rw [mvS_o _ _ _ _ k q, mvS_o _ _ _ _ k q]
  exact Prod.ext rfl h2
theorem move_c (hr : ∀ j : Nat, -1 ≤ (u.2 14 j).toInt ∧ (u.2 14 j).toInt ≤ 120) (top E : Int32) {N : Nat} (hN : u.1 0 = nI N) (hN2 : N ≤ 120) : ∀ (j m i : Nat), i + j = N → j < m → fcA_moveBranch_2 m (mvS u top E i) top E (nI i) = some (mvS u top E N) := by
  intro j
  induction j with
  | zero =>
    intro m i hi hm
    obtain ⟨m, rfl⟩ : ∃ m', m = m' + 1 := ⟨m - 1, by omega⟩
    obtain rfl : i = N := by omega
    rw [fcA_moveBranch_2_s, show (mvS u top E i).1 0 = nI i from hN, if_pos (nI_le (Nat.le_refl _) (by omega))]
  | succ j ih =>
    intro m i hi hm
    obtain ⟨m, rfl⟩ : ∃ m', m = m' + 1 := ⟨m - 1, by omega⟩
    rw [fcA_moveBranch_2_s, show (mvS u top E i).1 0 = nI N from hN, if_neg (nI_ge (by omega) (by omega))]
    have hu : fcA_isUnder (mvS u top E i) (nI i) top = some (if und (u.2 14) top 120 (nI i) = true then (1 : Int32) else 0) := by
      have h14 : (mvS u top E i).2 14 = u.2 14 := mvS_o u top E i 14 (by decide)
      have := under_c (u := mvS u top E i) (by rw [h14]; exact hr) top 120 200 (nI i) (Nat.le_refl _) (by decide) (by rw [nI_toInt (by omega)]; omega) (by rw [nI_toInt (by omega)]; omega)
      rw [h14] at this
      exact this
    rw [bi_s hu]
    by_cases q : und (u.2 14) top 120 (nI i) = true
    · rw [if_pos q, if_neg (by decide), ck_nI (n := 121) (by omega) (by decide)]
      show fcA_moveBranch_2 m (g_sA (mvS u top E i) 13 (nI i) E) top E (nI i + (1 : Int32)) = _
      rw [mvS_n (by omega) q, nI_1]
      exact ih m (i + 1) (by omega) (by omega)
    · rw [if_neg q, if_pos rfl, mvS_k q, nI_1]
      exact ih m (i + 1) (by omega) (by omega)
def trg (v : g_S) (E was : Int32) (d : Nat) : Prop := v.2 12 d = was ∧ 0 ≤ (v.2 13 d).toInt ∧ v.2 12 (v.2 13 d).toNatClampNeg = E
def LI (v0 : g_S) (top E was : Int32) (v : g_S) : Prop := v.1 = v0.1 ∧ (∀ k, ¬ k = 12 → v.2 k = v0.2 k) ∧ (∀ d : Nat, ¬ v.2 12 d = v0.2 12 d → v.2 12 d = E ∧ v0.2 12 d = was ∧ (d : Int) < (v0.1 1).toInt) ∧ ∀ d : Nat, (d : Int) < (v0.1 1).toInt → v.2 12 d = E → und (v0.2 13) top (120 - mu_ (v.2 12) was 120) (nI d) = true
theorem okl_s124 {v0 : g_S} {top E was : Int32} {k : g_S → Int32 → Int32 → Int32 → Option (Int32 × g_S)} {m : Nat} {Q : Int32 × g_S → Prop} (h4 : 0 ≤ E.toInt) (h5 : E.toInt ≤ 59) (hE : E.toInt < (v0.1 2).toInt) (hne : ¬ E = was) (hrs : ∀ d : Nat, (d : Int) < (v0.1 1).toInt → (v0.2 13 d).toInt < (v0.1 1).toInt) (hk : ∀ (v : g_S) (x6 : Int32), IM g v → LI v0 top E was v → ((x6 = 0 ∧ ∀ d : Nat, (d : Int) < (v0.1 1).toInt → ¬ trg v E was d) ∨ (x6 = 1 ∧ mu_ (v.2 12) was 120 < m)) → okk (k v E was x6) Q) :
    ∀ (n : Nat) (v : g_S) (x6 x7 : Int32), IM g v → LI v0 top E was v → 0 ≤ x7.toInt → x7.toInt ≤ 120 → 121 ≤ (n : Int) + x7.toInt → ((x6 = 0 ∧ mu_ (v.2 12) was 120 ≤ m ∧ ∀ d : Nat, (d : Int) < x7.toInt → ¬ trg v E was d) ∨ (x6 = 1 ∧ mu_ (v.2 12) was 120 < m)) → okk (fm_split_124 k n v E was x6 x7) Q := by
  have z0 : (0 : Int32).toInt = 0 := by decide
  intro n
  induction n with
  | zero =>
    intro v x6 x7 I hl h0 h1 hf hm
    exfalso; omega
  | succ n ih =>
    intro v x6 x7 I hl h0 h1 hf hm
    rw [fm_split_124_s]
    have z := IM_s I
    obtain ⟨l1, l2, l3, l4⟩ := id hl
    have e1 : (v.1 1).toInt = (v0.1 1).toInt := by rw [l1]
    have e2 : (v.1 2).toInt = (v0.1 2).toInt := by rw [l1]
    refine okk_le (fun c cI => ?_) (fun c cI => ?_)
    · exact hk v x6 I hl (hm.imp (fun q => ⟨q.1, fun d hd => q.2.2 d (by omega)⟩) id)
    · have t : (x7 + (1 : Int32)).toInt = x7.toInt + 1 := oi_add rfl (by decide) (by omega) (by omega)
      have hcl : (x7.toNatClampNeg : Int) = x7.toInt := cl_I (by omega)
      have hrec : ¬ trg v E was x7.toNatClampNeg → okk (fm_split_124 k n v E was x6 (x7 + (1 : Int32))) Q := fun hn => ih v x6 (x7 + (1 : Int32)) I hl (by omega) (by omega) (by omega) (hm.imp (fun q => ⟨q.1, q.2.1, fun d hd => by
        by_cases y : d = x7.toNatClampNeg
        · rw [y]; exact hn
        · exact q.2.2 d (by omega)⟩) id)
      have hr := IM_r13 I x7.toNatClampNeg
      refine okk_ck (vp_I (by omega) (by omega)) ?_
      refine okk_ne (fun d _ => hrec (fun y => d y.1)) (fun d dI => ?_)
      refine okk_ck (vp_I (by omega) (by omega)) ?_
      refine okk_lt (fun f fI => hrec (fun y => by have := y.2.1; omega)) (fun f fI => ?_)
      refine okk_ck (vp_I (by omega) (by omega)) ?_
      refine okk_ck (vp_I (by omega) (by omega)) ?_
      refine okk_ne (fun d2 _ => hrec (fun y => d2 y.2.2)) (fun d2 _ => ?_)
      refine okk_ck (vp_I (by omega) (by omega)) ?_
      refine okk_gl (fun u8 e8 => ?_)
      have I8 : IM g u8 := by rw [e8]; exact IM_w12c I _ _ h4 h5 (by omega) (by omega)
      have hd : mu_ (u8.2 12) was 120 + 1 = mu_ (v.2 12) was 120 := by
        rw [e8]
        refine mu_dec (v.2 12) _ was x7.toNatClampNeg d ?_ ?_ 120 (by omega)
        · rw [rdA, if_pos ⟨rfl, rfl⟩]; exact hne
        · intro j hj
          rw [rdA, if_neg (fun y => hj y.2)]
      have hm2 : mu_ (u8.2 12) was 120 < m := by
        rcases hm with q | q
        · have := q.2.1; omega
        · have := q.2; omega
      have hml := mu_le (v.2 12) was 120
      have hl8 : LI v0 top E was u8 := by
        refine ⟨by rw [e8]; exact l1, fun k hk => by rw [e8, eqf_w 12 _ _ k hk]; exact l2 k hk, fun q hq => ?_, fun q hq hqE => ?_⟩
        · rw [e8, rdA] at hq ⊢
          by_cases y : q = x7.toNatClampNeg
          · rw [if_pos ⟨rfl, y⟩]
            refine ⟨rfl, ?_, by rw [y]; omega⟩
            by_cases y2 : v.2 12 q = v0.2 12 q
            · rw [← y2, y]; exact d
            · have := (l3 q y2).1
              rw [y, d] at this
              exact absurd this.symm hne
          · rw [if_neg (fun z => y z.2)] at hq ⊢
            exact l3 q hq
        · have hn : 120 - mu_ (u8.2 12) was 120 = (120 - mu_ (v.2 12) was 120) + 1 := by omega
          rw [hn]
          by_cases y : q = x7.toNatClampNeg
          · have h13 : v.2 13 = v0.2 13 := l2 13 (by decide)
            have hc2 : ((v.2 13 x7.toNatClampNeg).toNatClampNeg : Int) = (v.2 13 x7.toNatClampNeg).toInt := cl_I (by omega)
            have ha := hrs x7.toNatClampNeg (by omega)
            rw [← h13] at ha
            have hu := l4 (v.2 13 x7.toNatClampNeg).toNatClampNeg (by omega) d2
            rw [und_s]
            rw [if_neg (nI_m1 (by omega))]
            by_cases y2 : nI q = top
            · rw [if_pos y2]
            · rw [if_neg y2, nI_clamp (by omega), y, ← h13]
              rw [← h13] at hu
              have e9 : nI (v.2 13 x7.toNatClampNeg).toNatClampNeg = v.2 13 x7.toNatClampNeg := Int32.toInt_inj.mp (by rw [nI_toInt (by omega)]; exact hc2)
              rw [e9] at hu
              exact hu
          · have hqE' : v.2 12 q = E := by
              rw [e8, rdA, if_neg (fun z => y z.2)] at hqE; exact hqE
            exact und_m (l4 q hq hqE')
      exact ih u8 (1 : Int32) (x7 + (1 : Int32)) I8 hl8 (by omega) (by omega) (by omega) (Or.inr ⟨rfl, hm2⟩)
theorem okl_s113 {v0 : g_S} {top E was : Int32} (h4 : 0 ≤ E.toInt) (h5 : E.toInt ≤ 59) (hE : E.toInt < (v0.1 2).toInt) (hne : ¬ E = was) (hrs : ∀ d : Nat, (d : Int) < (v0.1 1).toInt → (v0.2 13 d).toInt < (v0.1 1).toInt) : ∀ (n : Nat) (v : g_S) (x6 : Int32), IM g v → LI v0 top E was v → ((x6 = 0 ∧ 1 ≤ n ∧ ∀ d : Nat, (d : Int) < (v0.1 1).toInt → ¬ trg v E was d) ∨ (x6 = 1 ∧ mu_ (v.2 12) was 120 + 2 ≤ n)) → okk (fm_split_113 n v E was x6) (fun r => r.1 = E ∧ IM g r.2 ∧ LI v0 top E was r.2 ∧ ∀ d : Nat, (d : Int) < (v0.1 1).toInt → ¬ trg r.2 E was d) := by
  have z0 : (0 : Int32).toInt = 0 := by decide
  intro n
  induction n with
  | zero =>
    intro v x6 I hl h
    exfalso
    rcases h with q | q
    · have := q.2.1; omega
    · have := q.2; omega
  | succ n ih =>
    intro v x6 I hl h
    rw [fm_split_113_s]
    refine okk_eq (fun c cI => ?_) (fun c cI => ?_)
    · rcases h with q | q
      · exact okk_some ⟨rfl, I, hl, q.2.2⟩
      · rw [q.1] at c; exact absurd c (by decide)
    · have h1 : mu_ (v.2 12) was 120 + 2 ≤ n + 1 := by
        rcases h with q | q
        · exact absurd q.1 c
        · exact q.2
      refine okl_s124 (m := mu_ (v.2 12) was 120) h4 h5 hE hne hrs (fun v' x6' I' hl' h' => ih v' x6' I' hl' ?_) 200 v (0 : Int32) (0 : Int32) I hl (by omega) (by omega) (by omega) (Or.inl ⟨rfl, Nat.le_refl _, fun d hd => by omega⟩)
      rcases h' with q | q
      · exact Or.inl ⟨q.1, by omega, q.2⟩
      · exact Or.inr ⟨q.1, by have := q.2; omega⟩
theorem spl_all {v0 v : g_S} {t : Nat} {E was : Int32} (ht : t < 120) (hl : LI v0 (nI t) E was v) (hT : ∀ d : Nat, (d : Int) < (v0.1 1).toInt → ¬ trg v E was d) (htop : v0.2 12 t = E) (hne : ¬ E = was) {f ev : Nat → Int32} (hf : ∀ j, ¬ j = t → (j : Int) < (v0.1 1).toInt → f j = v0.2 13 j) (hev : ∀ j, ¬ j = t → (j : Int) < (v0.1 1).toInt → ev j = v0.2 12 j) (hevt : ev t = was) (hold : ∀ j, ¬ j = t → (j : Int) < (v0.1 1).toInt → ¬ v0.2 12 j = E) (hr : ∀ d : Nat, (d : Int) < (v0.1 1).toInt → -1 ≤ (f d).toInt ∧ (f d).toInt < (v0.1 1).toInt) (hse : ∀ d : Nat, (d : Int) < (v0.1 1).toInt → 0 ≤ (f d).toInt → ev (f d).toNatClampNeg = ev d) (hN : (v0.1 1).toInt ≤ 120) :
    ∀ (n : Nat) (d : Nat), (d : Int) < (v0.1 1).toInt → und f (nI t) n (nI d) = true → v.2 12 d = E := by
  have zm : (-1 : Int32).toInt = -1 := by decide
  obtain ⟨l1, l2, l3, l4⟩ := hl
  have htE : v.2 12 t = E := by
    by_cases q : v.2 12 t = v0.2 12 t
    · rw [q, htop]
    · exact (l3 t q).1
  intro n
  induction n with
  | zero => intro d _ h; cases h
  | succ n ih =>
    intro d hd h
    rw [und_s, if_neg (nI_m1 (by omega))] at h
    by_cases q : d = t
    · rw [q]; exact htE
    · rw [if_neg (fun y => q ((nI_eq (by omega) (by omega)).mp y)), nI_clamp (by omega)] at h
      have hfr := hr d hd
      have h0 : 0 ≤ (f d).toInt := by
        rcases Int.lt_or_le (f d).toInt 0 with y | y
        · exfalso
          have e : f d = -1 := Int32.toInt_inj.mp (by omega)
          rw [e] at h
          cases n with
          | zero => cases h
          | succ n => rw [und_s, if_pos rfl] at h; cases h
        · exact y
      have hc : ((f d).toNatClampNeg : Int) = (f d).toInt := cl_I h0
      have e9 : nI (f d).toNatClampNeg = f d := Int32.toInt_inj.mp (by rw [nI_toInt (by omega)]; exact hc)
      have ha : v.2 12 (f d).toNatClampNeg = E := ih _ (by omega) (by rw [e9]; exact h)
      -- the reason's old event is 'was'
      have hwas : ev (f d).toNatClampNeg = was := by
        by_cases y : (f d).toNatClampNeg = t
        · rw [y]; exact hevt
        · have hx : ¬ v.2 12 (f d).toNatClampNeg = v0.2 12 (f d).toNatClampNeg := fun z => hold _ y (by omega) (z.symm.trans ha)
          rw [hev _ y (by omega)]
          exact (l3 _ hx).2.1
      have hdw : v0.2 12 d = was := by rw [← hev d q hd, ← hse d hd h0]; exact hwas
      by_cases y : v.2 12 d = v0.2 12 d
      · refine absurd ⟨y.trans hdw, ?_, ?_⟩ (hT d hd)
        · rw [l2 13 (by decide), ← hf d q hd]; exact h0
        · rw [l2 13 (by decide), ← hf d q hd]; exact ha
      · exact (l3 d y).1
end SPL
