section MGM
variable {g : Nat → Int32} {u w : g_S}
theorem lk_merge (R : RA u w) (S : RS u) (I : IC g u) (J : IM g w) (p1 p2 : Int32) : ∃ rv rz, fcJ_merge u p1 p2 = some rv ∧ fm_merge w p1 p2 = some rz ∧ RA rv.2.2 rz.2 ∧ RS rv.2.2 ∧ rz.2.1 0 = lwc [1, 3] rv.1 ∧ (rv.1 = 0 → rv.2.1 = rz.1) := by
  have z := IC_s I
  have z0 : (0 : Int32).toInt = 0 := by decide
  by_cases h : (0 ≤ p1.toInt ∧ p1.toInt < (u.1 1).toInt) ∧ (0 ≤ p2.toInt ∧ p2.toInt < (u.1 0).toInt)
  · obtain ⟨h1, h2⟩ := h
    obtain ⟨e, he, he2, -⟩ := nat_of h1
    obtain ⟨c, hc, hc2, -⟩ := nat_of h2
    have e60 : e < 60 := by omega
    have c120 : c < 120 := by omega
    have r13 := IC_r13 I c
    obtain ⟨t, ht, ht2, -⟩ := nat_of (p := u.2 13 c) (n := (u.1 1).toInt) ⟨by omega, (S.2.1 c hc2).2.2.2.1⟩
    have t60 : t < 60 := by omega
    have ct : (nI t).toNatClampNeg = t := n31 (by omega)
    have ce : (nI e).toNatClampNeg = e := n31 (by omega)
    have cc : (nI c).toNatClampNeg = c := n31 (by omega)
    have qc := (R.2.2.2.1 c hc2).2.2.2.2.2.1
    have we : w.2 16 e = u.2 17 e := ((R.2.2.2.2 e he2).1).symm
    have wt : w.2 16 t = u.2 17 t := ((R.2.2.2.2 t ht2).1).symm
    have w12 : w.2 12 c = nI t := by rw [← qc]; exact ht
    have E1a : fcJ_merge u p1 p2 = fcJ_merge_33 u (nI e) (nI c) (1 : Int32) := by
      unfold fcJ_merge
      rw [bi_s (isb1 h1), if_neg (by decide), bi_s (isb1 h2), if_neg (by decide), he, hc]
    have E2a : fm_merge w p1 p2 = fm_merge_21 w (nI e) (nI c) (1 : Int32) := by
      unfold fm_merge
      rw [bi_s (ise1 J (by rw [← RA_e R]; exact h1)), if_neg (by decide), bi_s (isc1 J (by rw [← RA_z R]; exact h2)), if_neg (by decide), he, hc]
    have Ee : ∀ {β : Type} (x : Option β), ck (nI e) 60 x = x := fun x => ck_nI e60 (by decide)
    have Et : ∀ {β : Type} (x : Option β), ck (nI t) 60 x = x := fun x => ck_nI t60 (by decide)
    have E1b : fcJ_merge_33 u (nI e) (nI c) (1 : Int32) = if ¬ u.2 17 e = 0 then fcJ_merge_80 u (nI e) (nI c) (nI t) (0 : Int32) else if ¬ u.2 17 t = 0 then fcJ_merge_80 u (nI e) (nI c) (nI t) (0 : Int32) else if nI e = nI t then fcJ_merge_80 u (nI e) (nI c) (nI t) (0 : Int32) else fcJ_merge_80 u (nI e) (nI c) (nI t) (1 : Int32) := by
      unfold fcJ_merge_33
      rw [bi_s nk1, if_pos rfl, ck_nI (n := 121) (by omega) (by decide), gl_r, cc, ht, Ee, Et, ce, ct]
    have E2b : fm_merge_21 w (nI e) (nI c) (1 : Int32) = if ¬ u.2 17 e = 0 then fm_merge_58 w (nI e) (nI c) (1 : Int32) (0 : Int32) else if opV (u.2 17 t) = 0 then fm_merge_58 w (nI e) (nI c) (1 : Int32) (0 : Int32) else if nI t = nI e then fm_merge_58 w (nI e) (nI c) (1 : Int32) (0 : Int32) else fm_merge_58 w (nI e) (nI c) (1 : Int32) (1 : Int32) := by
      have ho := op_m J c120
      rw [w12, ct, wt] at ho
      unfold fm_merge_21
      rw [if_neg (by decide), Ee, ce, we, bi_s ho, ck_nI c120 (by decide), cc, w12]
    have E10 : fcJ_merge_80 u (nI e) (nI c) (nI t) (0 : Int32) = some (3, (0 : Int32), u) := by
      unfold fcJ_merge_80
      rw [bi_s ns0, if_neg (by decide)]
    have E20 : fm_merge_58 w (nI e) (nI c) (1 : Int32) (0 : Int32) = some ((0 : Int32), g_sI w 0 2) := by
      unfold fm_merge_58
      rw [if_pos (by decide), if_neg (fun q => q rfl)]
      unfold fm_merge_80
      rw [bi_s (fm_thr_2 w 0)]
      dsimp only
      rw [if_neg (by decide)]
    have E21 : fm_merge_58 w (nI e) (nI c) (1 : Int32) (1 : Int32) = fm_merge_80 w (nI e) (nI c) (0 : Int32) (0 : Int32) := by
      unfold fm_merge_58
      rw [if_pos (by decide), if_pos (by decide)]
    have F3 : fcJ_merge u p1 p2 = some (3, (0 : Int32), u) → fm_merge w p1 p2 = some ((0 : Int32), g_sI w 0 2) → ∃ rv rz, fcJ_merge u p1 p2 = some rv ∧ fm_merge w p1 p2 = some rz ∧ RA rv.2.2 rz.2 ∧ RS rv.2.2 ∧ rz.2.1 0 = lwc [1, 3] rv.1 ∧ (rv.1 = 0 → rv.2.1 = rz.1) := fun a b => ⟨_, _, a, b, RA_0 R 2, S, by show (2 : Int32) = lwc [1, 3] 3; decide, fun q => by simp at q⟩
    by_cases a1 : u.2 17 e = 0
    · have a1' : ¬ ¬ u.2 17 e = 0 := fun q => q a1
      rw [if_neg a1'] at E1b E2b
      by_cases a2 : u.2 17 t = 0
      · have a2' : ¬ ¬ u.2 17 t = 0 := fun q => q a2
        have o2 : ¬ opV (u.2 17 t) = 0 := by unfold opV; rw [if_neg a2']; decide
        rw [if_neg a2'] at E1b
        rw [if_neg o2] at E2b
        by_cases a3 : nI e = nI t
        · rw [if_pos a3, E10] at E1b
          rw [if_pos a3.symm, E20] at E2b
          exact F3 (E1a.trans E1b) (E2a.trans E2b)
        · rw [if_neg a3] at E1b
          rw [if_neg (fun q => a3 q.symm), E21] at E2b
          have h3 : ¬ u.2 17 e = 3 := by rw [a1]; decide
          obtain ⟨N, hN, hN2, -⟩ := nat_of (p := u.1 0) (n := 121) (by omega)
          have hNi : (u.1 0).toInt = N := by rw [hN, nI_toInt (by omega)]
          have hNw : w.1 1 = nI N := by rw [← RA_z R]; exact hN
          obtain ⟨g1, g2, g3, g4, g5, g6⟩ := S.2.2.2 e he2 h3
          obtain ⟨f, hf, hf2, -⟩ := nat_of (p := u.2 19 e) (n := (u.1 0).toInt) ⟨g1, g2⟩
          have hfi : fm_firstOf (g_sI w 0 0) (nI e) = some (nI f) := by rw [first_m (RA_0 R 0) S I (IM_ix J _ (by decide)) he2 h3, hf]
          have hce : ¬ w.2 12 c = nI e := by rw [w12]; exact fun q => a3 q.symm
          have G1 := mergec_go (u := u) (e := e) (c := c) (f := f) (t := nI t) e60 (by omega) hN (by omega) hf
          have G2 := mergem_go (w := w) (e := e) (c := c) (f := f) e60 (by omega) c120 hNw (by omega) hfi hce
          rw [w12] at G2
          have hmu : mu_ (maF (w.2 12) (nI e) (nI t) N) (nI t) N = mu_ (maF (u.2 13) (nI e) (nI t) N) (nI t) N := mu_ext _ _ _ N (fun j hj => by
            unfold maF
            rw [(R.2.2.2.1 j (by omega)).2.2.2.2.2.1])
          rw [hmu] at G2
          have nf : (nI f).toNatClampNeg = f := n31 (by omega)
          have het : ¬ e = t := fun q => a3 (by rw [q])
          have k13 : (mgC u e c f (nI t) N).2 13 = maF (u.2 13) (nI e) (nI t) N := by
            unfold mgC
            rw [eqf_w 19 _ _ 13 (by decide), eqf_w 17 _ _ 13 (by decide), pA_k]
          have k14 : ∀ d, (mgC u e c f (nI t) N).2 14 d = if d = f then nI c else u.2 14 d := fun d => by
            unfold mgC
            rw [eqf_w 19 _ _ 14 (by decide), eqf_w 17 _ _ 14 (by decide), pA_o _ _ _ 14 (by decide), eqf_w 15 _ _ 14 (by decide), rdk, nf]
          have k15 : ∀ d, (mgC u e c f (nI t) N).2 15 d = if d = f then 5 else u.2 15 d := fun d => by
            unfold mgC
            rw [eqf_w 19 _ _ 15 (by decide), eqf_w 17 _ _ 15 (by decide), pA_o _ _ _ 15 (by decide), rdk, nf, eqf_w 14 _ _ 15 (by decide)]
          have k17 : ∀ d, (mgC u e c f (nI t) N).2 17 d = if d = e then 3 else u.2 17 d := fun d => by
            unfold mgC
            rw [eqf_w 19 _ _ 17 (by decide), rdk, ce, pA_o _ _ _ 17 (by decide), eqf_w 15 _ _ 17 (by decide), eqf_w 14 _ _ 17 (by decide)]
          have k19 : ∀ d, ¬ d = e → (mgC u e c f (nI t) N).2 19 d = u.2 19 d := fun d hd => by
            unfold mgC
            rw [rdk, ce, if_neg hd, eqf_w 17 _ _ 19 (by decide), pA_o _ _ _ 19 (by decide), eqf_w 15 _ _ 19 (by decide), eqf_w 14 _ _ 19 (by decide)]
          have ko : ∀ k, (k < 13 ∨ k = 16 ∨ k = 18 ∨ 20 ≤ k) → (mgC u e c f (nI t) N).2 k = u.2 k := fun k hk => by
            unfold mgC
            rw [eqf_w 19 _ _ k (by omega), eqf_w 17 _ _ k (by omega), pA_o _ _ _ k (by omega), eqf_w 15 _ _ k (by omega), eqf_w 14 _ _ k (by omega)]
          have m12 : (mgM (g_sI w 0 0) e c f (nI t) N).2 12 = maF (w.2 12) (nI e) (nI t) N := by
            unfold mgM
            rw [eqf_w 17 _ _ 12 (by decide), eqf_w 16 _ _ 12 (by decide), pA_k]; rfl
          have m13 : ∀ d, (mgM (g_sI w 0 0) e c f (nI t) N).2 13 d = if d = f then nI c else w.2 13 d := fun d => by
            unfold mgM
            rw [eqf_w 17 _ _ 13 (by decide), eqf_w 16 _ _ 13 (by decide), pA_o _ _ _ 13 (by decide), eqf_w 15 _ _ 13 (by decide), rdk, nf]; rfl
          have m15 : ∀ d, (mgM (g_sI w 0 0) e c f (nI t) N).2 15 d = if d = f then 5 else w.2 15 d := fun d => by
            unfold mgM
            rw [eqf_w 17 _ _ 15 (by decide), eqf_w 16 _ _ 15 (by decide), pA_o _ _ _ 15 (by decide), rdk, nf, eqf_w 13 _ _ 15 (by decide)]; rfl
          have m16 : ∀ d, (mgM (g_sI w 0 0) e c f (nI t) N).2 16 d = if d = e then 3 else w.2 16 d := fun d => by
            unfold mgM
            rw [eqf_w 17 _ _ 16 (by decide), rdk, ce, pA_o _ _ _ 16 (by decide), eqf_w 15 _ _ 16 (by decide), eqf_w 13 _ _ 16 (by decide)]; rfl
          have m17 : ∀ d, ¬ d = e → (mgM (g_sI w 0 0) e c f (nI t) N).2 17 d = w.2 17 d := fun d hd => by
            unfold mgM
            rw [rdk, ce, if_neg hd, eqf_w 16 _ _ 17 (by decide), pA_o _ _ _ 17 (by decide), eqf_w 15 _ _ 17 (by decide), eqf_w 13 _ _ 17 (by decide)]; rfl
          have mo : ∀ k, (k < 12 ∨ k = 14 ∨ 18 ≤ k) → (mgM (g_sI w 0 0) e c f (nI t) N).2 k = w.2 k := fun k hk => by
            unfold mgM
            rw [eqf_w 17 _ _ k (by omega), eqf_w 16 _ _ k (by omega), pA_o _ _ _ k (by omega), eqf_w 15 _ _ k (by omega), eqf_w 13 _ _ k (by omega)]; rfl
          have ra : RA (mgC u e c f (nI t) N) (mgM (g_sI w 0 0) e c f (nI t) N) := by
            refine RA_merge (e := e) (c := c) (N := N) R S hNi rfl rfl rfl rfl ko mo (fun d hd => ?_) (fun d hd => ?_) (fun d hd => ?_) k17 m16 m17
            · rw [k13, m12]
              unfold maF
              rw [(R.2.2.2.1 d (by omega)).2.2.2.2.2.1]
            · rw [k14, m13, (R.2.2.2.1 d (by omega)).2.2.2.2.2.2.1]
            · rw [k15, m15, (R.2.2.2.1 d (by omega)).2.2.2.2.2.2.2.1]
          have rs : RS (mgC u e c f (nI t) N) := RS_merge (e := e) (c := c) (f := f) (t := t) (N := N) S I hNi (by omega) (by omega) het he2 ht2 h3 hf ht t60 e60 (by omega) rfl rfl (fun k hk => ko k (by omega)) (fun d => by rw [k13]; rfl) k14 k17 k19
          exact ⟨_, _, E1a.trans (E1b.trans G1), E2a.trans (E2b.trans G2), ra, rs, by show (0 : Int32) = lwc [1, 3] 0; decide, fun _ => rfl⟩
      · have o2 : opV (u.2 17 t) = 0 := by unfold opV; rw [if_pos a2]
        rw [if_pos a2, E10] at E1b
        rw [if_pos o2, E20] at E2b
        exact F3 (E1a.trans E1b) (E2a.trans E2b)
    · rw [if_pos a1, E10] at E1b
      rw [if_pos a1, E20] at E2b
      exact F3 (E1a.trans E1b) (E2a.trans E2b)
  · have h33 : fcJ_merge_33 u p1 p2 (0 : Int32) = some (1, (0 : Int32), u) := by
      unfold fcJ_merge_33
      rw [bi_s nk0, if_neg (by decide)]
    have h21 : fm_merge_21 w p1 p2 (0 : Int32) = some ((0 : Int32), g_sI w 0 1) := by
      unfold fm_merge_21
      rw [if_pos rfl]
      unfold fm_merge_58
      rw [if_neg (fun q => q rfl), if_neg (fun q => q rfl)]
      unfold fm_merge_80
      rw [bi_s (fm_thr_1 w 1 0)]
      dsimp only
      rw [if_neg (by decide)]
    have E1 : fcJ_merge u p1 p2 = some (1, (0 : Int32), u) := by
      unfold fcJ_merge
      by_cases h1 : 0 ≤ p1.toInt ∧ p1.toInt < (u.1 1).toInt
      · rw [bi_s (isb1 h1), if_neg (by decide), bi_s (isb0 (fun q => h ⟨h1, q⟩)), if_pos rfl]; exact h33
      · rw [bi_s (isb0 h1), if_pos rfl]; exact h33
    have E2 : fm_merge w p1 p2 = some ((0 : Int32), g_sI w 0 1) := by
      unfold fm_merge
      by_cases h1 : 0 ≤ p1.toInt ∧ p1.toInt < (u.1 1).toInt
      · rw [bi_s (ise1 J (by rw [← RA_e R]; exact h1)), if_neg (by decide), bi_s (isc0 J (by rw [← RA_z R]; exact fun q => h ⟨h1, q⟩)), if_pos rfl]; exact h21
      · rw [bi_s (ise0 J (by rw [← RA_e R]; exact h1)), if_pos rfl]; exact h21
    exact ⟨_, _, E1, E2, RA_0 R 1, S, by show (1 : Int32) = lwc [1, 3] 1; decide, fun q => by simp at q⟩
end MGM
