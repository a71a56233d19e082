section SPM
variable {g : Nat → Int32} {u w : g_S}
theorem und_cN {f f' : Nat → Int32} {t N : Nat} (ht : t < 2 ^ 31) (h : ∀ j, j < N → ¬ j = t → f j = f' j) (hr : ∀ j, j < N → -1 ≤ (f j).toInt ∧ (f j).toInt < N) : ∀ (n : Nat) (a : Int32), -1 ≤ a.toInt → a.toInt < N → und f (nI t) n a = und f' (nI t) n a := by
  have zm : (-1 : Int32).toInt = -1 := by decide
  intro n
  induction n with
  | zero => intro a _ _; rfl
  | succ n ih =>
    intro a ha hb
    rw [und_s, und_s]
    by_cases q : a = -1
    · rw [if_pos q, if_pos q]
    · rw [if_neg q, if_neg q]
      by_cases q2 : a = nI t
      · rw [if_pos q2, if_pos q2]
      · have hc : (a.toNatClampNeg : Int) = a.toInt := cl_I (by
          rcases Int.lt_or_le a.toInt 0 with y | y
          · exact absurd (Int32.toInt_inj.mp (by omega)) q
          · exact y)
        have hne : ¬ a.toNatClampNeg = t := fun y => q2 (Int32.toInt_inj.mp (by rw [nI_toInt ht]; omega))
        have hlt : a.toNatClampNeg < N := by omega
        rw [if_neg q2, if_neg q2, ← h _ hlt hne]
        exact ih _ (hr _ hlt).1 (hr _ hlt).2
theorem spV_r {t M : Nat} (ht : t < 120) : (∀ d, (spV w t M).2 12 d = if d = t then nI M else w.2 12 d) ∧ (∀ d, (spV w t M).2 13 d = if d = t then -1 else w.2 13 d) ∧ (∀ d, (spV w t M).2 15 d = if d = t then 0 else w.2 15 d) ∧ (∀ k, (k < 12 ∨ k = 14) → (spV w t M).2 k = w.2 k) := by
  have nt : (nI t).toNatClampNeg = t := n31 (by omega)
  refine ⟨fun d => ?_, fun d => ?_, fun d => ?_, fun k hk => ?_⟩
  · unfold spV
    rw [rdk, nt, eqf_w 15 _ _ 12 (by decide), eqf_w 13 _ _ 12 (by decide), neS_o 12 (by decide)]
  · unfold spV
    rw [eqf_w 12 _ _ 13 (by decide), eqf_w 15 _ _ 13 (by decide), rdk, nt, neS_o 13 (by decide)]
  · unfold spV
    rw [eqf_w 12 _ _ 15 (by decide), rdk, nt, eqf_w 13 _ _ 15 (by decide), neS_o 15 (by decide)]
  · unfold spV
    rw [eqf_w 12 _ _ k (by omega), eqf_w 15 _ _ k (by omega), eqf_w 13 _ _ k (by omega), neS_o k (by omega)]
theorem spV_e {t M : Nat} (hM : w.1 2 = nI M) (hM2 : M < 60) : (∀ k d : Nat, 16 ≤ k → ¬ d = M → (spV w t M).2 k d = w.2 k d) ∧ (spV w t M).2 16 M = 0 ∧ (spV w t M).2 17 M = -1 := by
  refine ⟨fun k d hk hd => ?_, ?_, ?_⟩
  · unfold spV
    rw [eqf_w 12 _ _ k (by omega), eqf_w 15 _ _ k (by omega), eqf_w 13 _ _ k (by omega), neS_e hM hM2 k d hd]
  · unfold spV
    rw [eqf_w 12 _ _ 16 (by decide), eqf_w 15 _ _ 16 (by decide), eqf_w 13 _ _ 16 (by decide)]; exact (neS_n hM hM2).1
  · unfold spV
    rw [eqf_w 12 _ _ 17 (by decide), eqf_w 15 _ _ 17 (by decide), eqf_w 13 _ _ 17 (by decide)]; exact (neS_n hM hM2).2
theorem spC_r {t M N : Nat} (ht : t < 120) : (∀ d, d < N → (spC u t M N).2 13 d = if und (u.2 14) (nI t) 120 (nI d) = true then nI M else u.2 13 d) ∧ (∀ d, (spC u t M N).2 14 d = if d = t then -1 else u.2 14 d) ∧ (∀ d, (spC u t M N).2 15 d = if d = t then 0 else u.2 15 d) ∧ (∀ k, (k < 13 ∨ k = 16) → (spC u t M N).2 k = u.2 k) := by
  have nt : (nI t).toNatClampNeg = t := n31 (by omega)
  refine ⟨fun d hd => ?_, fun d => ?_, fun d => ?_, fun k hk => ?_⟩
  · unfold spC
    rw [eqf_w 15 _ _ 13 (by decide), eqf_w 14 _ _ 13 (by decide), mvS_13, bgS_o _ _ 13 (by decide), bgS_o _ _ 14 (by decide)]
    unfold mvF
    by_cases q : und (u.2 14) (nI t) 120 (nI d) = true
    · rw [if_pos ⟨hd, q⟩, if_pos q]
    · rw [if_neg (fun y => q y.2), if_neg q]
  · unfold spC
    rw [eqf_w 15 _ _ 14 (by decide), rdk, nt, mvS_o _ _ _ _ 14 (by decide), bgS_o _ _ 14 (by decide)]
  · unfold spC
    rw [rdk, nt, eqf_w 14 _ _ 15 (by decide), mvS_o _ _ _ _ 15 (by decide), bgS_o _ _ 15 (by decide)]
  · unfold spC
    rw [eqf_w 15 _ _ k (by omega), eqf_w 14 _ _ k (by omega), mvS_o _ _ _ _ k (by omega), bgS_o _ _ k (by omega)]
theorem spC_e {t M N : Nat} (hM : u.1 1 = nI M) (hM2 : M < 60) : (∀ k d : Nat, 17 ≤ k → ¬ d = M → (spC u t M N).2 k d = u.2 k d) ∧ (spC u t M N).2 17 M = 0 ∧ (spC u t M N).2 18 M = u.2 8 t ∧ (spC u t M N).2 19 M = nI t ∧ (spC u t M N).2 20 M = -1 := by
  have b := bgS_n (u := u) hM hM2 (u.2 8 t) (nI t)
  refine ⟨fun k d hk hd => ?_, ?_, ?_, ?_, ?_⟩
  · unfold spC
    rw [eqf_w 15 _ _ k (by omega), eqf_w 14 _ _ k (by omega), mvS_o _ _ _ _ k (by omega), bgS_e hM hM2 _ _ k d hd]
  · unfold spC
    rw [eqf_w 15 _ _ 17 (by decide), eqf_w 14 _ _ 17 (by decide), mvS_o _ _ _ _ 17 (by decide)]; exact b.1
  · unfold spC
    rw [eqf_w 15 _ _ 18 (by decide), eqf_w 14 _ _ 18 (by decide), mvS_o _ _ _ _ 18 (by decide)]; exact b.2.1
  · unfold spC
    rw [eqf_w 15 _ _ 19 (by decide), eqf_w 14 _ _ 19 (by decide), mvS_o _ _ _ _ 19 (by decide)]; exact b.2.2.1
  · unfold spC
    rw [eqf_w 15 _ _ 20 (by decide), eqf_w 14 _ _ 20 (by decide), mvS_o _ _ _ _ 20 (by decide)]; exact b.2.2.2
theorem split_go (R : RA u w) (S : RS u) (I : IC g u) (J : IM g w) {t M N : Nat} (hN : u.1 0 = nI N) (hN2 : N ≤ 120) (hM : u.1 1 = nI M) (hM2 : M < 60) (ht : t < N) (hr : 0 ≤ (u.2 14 t).toInt) :
    ∃ w', fm_split_66 w (nI t) (0 : Int32) (0 : Int32) (0 : Int32) = some (nI M, w') ∧ w'.1 0 = 0 ∧ RA (spC u t M N) w' ∧ RS (spC u t M N) := by
  have zm : (-1 : Int32).toInt = -1 := by decide
  have z0 : (0 : Int32).toInt = 0 := by decide
  have hNi : (u.1 0).toInt = N := by rw [hN, nI_toInt (by omega)]
  have hMi : (u.1 1).toInt = M := by rw [hM, nI_toInt (by omega)]
  have hNw : (w.1 1).toInt = N := by rw [← RA_z R]; exact hNi
  have hMw : w.1 2 = nI M := by rw [← RA_e R]; exact hM
  have hMwi : (w.1 2).toInt = M := by rw [hMw, nI_toInt (by omega)]
  have nM : (nI M).toInt = M := nI_toInt (by omega)
  have nt : (nI t).toInt = t := nI_toInt (by omega)
  have ct : (nI t).toNatClampNeg = t := n31 (by omega)
  have hMp : (nI M + (1 : Int32)).toInt = M + 1 := by rw [nI_1, nI_toInt (by omega)]; omega
  have t120 : t < 120 := by omega
  obtain ⟨v12, v13, v15, vo⟩ := spV_r (w := g_sI w 0 0) (t := t) (M := M) t120
  obtain ⟨ve, v16, v17⟩ := spV_e (w := g_sI w 0 0) (t := t) (M := M) hMw hM2
  obtain ⟨c13, c14, c15, co⟩ := spC_r (u := u) (t := t) (M := M) (N := N) t120
  obtain ⟨ce, c17, c18, c19, c20⟩ := spC_e (u := u) (t := t) (M := M) (N := N) hM hM2
  have r14 : ∀ d : Nat, d < N → u.2 14 d = w.2 13 d := fun d hd => (R.2.2.2.1 d (by omega)).2.2.2.2.2.2.1
  have r13 : ∀ d : Nat, d < N → u.2 13 d = w.2 12 d := fun d hd => (R.2.2.2.1 d (by omega)).2.2.2.2.2.1
  have r15 : ∀ d : Nat, d < N → u.2 15 d = w.2 15 d := fun d hd => (R.2.2.2.1 d (by omega)).2.2.2.2.2.2.2.1
  have b14 : ∀ d : Nat, d < N → -1 ≤ (u.2 14 d).toInt ∧ (u.2 14 d).toInt < N := fun d hd => ⟨(IC_r14 I d).1, by have := (S.2.1 d (by omega)).2.2.2.2; omega⟩
  have I0 : IM g (spV (g_sI w 0 0) t M) := by
    have h := IM_spl (g := g) (u := g_sI w 0 0) (x := nI t) (v2 := w.1 2 + (1 : Int32)) (vE := nI M) (IM_ix J _ (by decide)) (by omega) (by show (nI t).toInt < (w.1 1).toInt; omega) (by rw [ct]; show 0 ≤ (w.2 13 t).toInt; rw [← r14 t ht]; exact hr) (by show (w.1 2).toInt ≤ 59; omega) (by show (w.1 2 + (1 : Int32)).toInt = (w.1 2).toInt + 1; rw [hMw]; omega) (by show (nI M).toInt = (w.1 2).toInt; omega)
    exact h
  have i1 : ((spV (g_sI w 0 0) t M).1 1).toInt = N := hNw
  have i2 : (spV (g_sI w 0 0) t M).1 2 = w.1 2 + (1 : Int32) := rfl
  have i2' : ((spV (g_sI w 0 0) t M).1 2).toInt = M + 1 := by rw [i2, hMw]; exact hMp
  have i0 : (spV (g_sI w 0 0) t M).1 0 = 0 := rfl
  have hgo := splitm_go (g := g) J (t := t) (M := M) (by omega) hMw hM2
  have k12 : ∀ d, (g_sI w 0 0).2 12 d = w.2 12 d := fun _ => rfl
  have k13 : ∀ d, (g_sI w 0 0).2 13 d = w.2 13 d := fun _ => rfl
  have k15 : ∀ d, (g_sI w 0 0).2 15 d = w.2 15 d := fun _ => rfl
  have kk : ∀ k, (g_sI w 0 0).2 k = w.2 k := fun _ => rfl
  rw [kk] at v12 v13 v15
  have hlt : ∀ d : Nat, d < N → (w.2 12 d).toInt < M := fun d hd => by have := IM_e J d (by omega); omega
  have hne : ¬ nI M = w.2 12 t := fun q => by have := hlt t ht; rw [← q] at this; omega
  generalize spV (g_sI w 0 0) t M = v0 at *
  have hold : ∀ j : Nat, ¬ j = t → (j : Int) < (v0.1 1).toInt → ¬ v0.2 12 j = nI M := fun j hj hj2 q => by
    rw [v12, if_neg hj] at q
    have := hlt j (by omega)
    rw [q] at this; omega
  have htop : v0.2 12 t = nI M := by rw [v12, if_pos rfl]
  have hmu : mu_ (v0.2 12) (w.2 12 t) 120 + 1 ≤ 120 := by
    have h := mu_dec (fun j => if j = t then w.2 12 t else v0.2 12 j) (v0.2 12) (w.2 12 t) t (if_pos rfl) (by rw [htop]; exact hne) (fun j hj => (if_neg hj).symm) 120 t120
    have h2 := mu_le (fun j => if j = t then w.2 12 t else v0.2 12 j) (w.2 12 t) 120
    omega
  have L0 : LI v0 (nI t) (nI M) (w.2 12 t) v0 := by
    refine ⟨rfl, fun _ _ => rfl, fun d h => absurd rfl h, fun d hd hE => ?_⟩
    have hdt : d = t := Classical.byContradiction (fun q => hold d q hd hE)
    obtain ⟨k, hk⟩ : ∃ k, 120 - mu_ (v0.2 12) (w.2 12 t) 120 = k + 1 := ⟨119 - mu_ (v0.2 12) (w.2 12 t) 120, by omega⟩
    rw [hk, hdt]
    exact und_t t120 k
  have hrs : ∀ d : Nat, (d : Int) < (v0.1 1).toInt → (v0.2 13 d).toInt < (v0.1 1).toInt := fun d hd => by
    rw [v13]
    by_cases q : d = t
    · rw [if_pos q]; omega
    · rw [if_neg q, ← r14 d (by omega)]
      have := (b14 d (by omega)).2; omega
  obtain ⟨r, hr1, e1, J1, hl, hT⟩ := okl_s113 (g := g) (v0 := v0) (top := nI t) (E := nI M) (was := w.2 12 t) (by omega) (by omega) (by omega) hne hrs 200 v0 (1 : Int32) I0 L0 (Or.inr ⟨rfl, by omega⟩)
  have hA : ∀ (n d : Nat), d < N → und (u.2 14) (nI t) n (nI d) = true → r.2.2 12 d = nI M := fun n d hd hu => by
    refine spl_all (v0 := v0) (v := r.2) (t := t) (E := nI M) (was := w.2 12 t) (f := u.2 14) (ev := u.2 13) t120 hl hT htop hne (fun j hj hj2 => ?_) (fun j hj hj2 => ?_) (r13 t ht) hold (fun d hd => ?_) (fun d hd h0 => ?_) (by omega) n d (by omega) hu
    · rw [v13, if_neg hj]; exact r14 j (by omega)
    · rw [v12, if_neg hj]; exact r13 j (by omega)
    · rw [i1]; exact b14 d (by omega)
    · exact S.2.2.1 d (by omega) h0
  obtain ⟨l1, l2, l3, l4⟩ := hl
  have hB : ∀ d : Nat, d < N → r.2.2 12 d = nI M → und (u.2 14) (nI t) 120 (nI d) = true := fun d hd hE => by
    have h := und_le (m := 120) (by omega) (l4 d (by omega) hE)
    have nd : (nI d).toInt = d := nI_toInt (by omega)
    rw [und_cN (f := u.2 14) (f' := v0.2 13) (N := N) (by omega) (fun j hj hj2 => by rw [v13, if_neg hj2]; exact r14 j hj) b14 120 (nI d) (by omega) (by omega)]
    exact h
  have m12 : ∀ d, d < N → (spC u t M N).2 13 d = r.2.2 12 d := fun d hd => by
    rw [c13 d hd]
    by_cases q : und (u.2 14) (nI t) 120 (nI d) = true
    · rw [if_pos q, hA 120 d hd q]
    · rw [if_neg q]
      have q2 : r.2.2 12 d = v0.2 12 d := Classical.byContradiction (fun y => q (hB d hd (l3 d y).1))
      have hdt : ¬ d = t := fun y => q (by rw [y]; exact und_t t120 119)
      rw [q2, v12, if_neg hdt]; exact r13 d hd
  have iM : ((spC u t M N).1 1).toInt = M + 1 := by
    show ((u.1 1) + (1 : Int32)).toInt = M + 1
    rw [hM]; exact hMp
  have ra : RA (spC u t M N) r.2 := by
    refine RA_split (M := M) (N := N) R hNi hMi rfl ?_ ?_ iM co (fun k hk => ?_) m12 (fun d hd => ?_) (fun d hd => ?_) ce (fun k d hk hd => ?_) ⟨c17, c20⟩ ⟨?_, ?_⟩
    · rw [l1]; exact Int32.toInt_inj.mp (by omega)
    · rw [l1, i2, hMw]
      show (u.1 1) + (1 : Int32) = _
      rw [hM]
    · rw [l2 k (by omega), vo k hk]; rfl
    · rw [c14, l2 13 (by decide), v13, r14 d hd]
    · rw [c15, l2 15 (by decide), v15, r15 d hd]
    · rw [l2 k (by omega), ve k d hk hd]; rfl
    · rw [l2 16 (by decide), v16]
    · rw [l2 17 (by decide), v17]
  have rs : RS (spC u t M N) := RS_split (t := t) (M := M) (N := N) S I hNi hMi ht rfl iM (fun k hk => co k (Or.inl hk)) c13 c14 ce ⟨c18, c19⟩ hr (fun n d hd h => hB d hd (hA n d hd h))
  refine ⟨r.2, ?_, by rw [l1, i0], ra, rs⟩
  rw [hgo, hr1, ← e1]
theorem lk_split (R : RA u w) (S : RS u) (I : IC g u) (J : IM g w) (p1 : Int32) : ∃ rv rz, fcJ_split u p1 = some rv ∧ fm_split w p1 = some rz ∧ RA rv.2.2 rz.2 ∧ RS rv.2.2 ∧ rz.2.1 0 = lwc [1, 3, 4] rv.1 ∧ (rv.1 = 0 → rv.2.1 = rz.1) := by
  have z := IC_s I
  have z0 : (0 : Int32).toInt = 0 := by decide
  have zm : (-1 : Int32).toInt = -1 := by decide
  have z60 : (60 : Int32).toInt = 60 := by decide
  by_cases h : 0 ≤ p1.toInt ∧ p1.toInt < (u.1 0).toInt
  · obtain ⟨t, ht, ht2, -⟩ := nat_of h
    have t120 : t < 120 := by omega
    have ct : (nI t).toNatClampNeg = t := n31 (by omega)
    have r14 := IC_r14 I t
    have e14 : u.2 14 t = w.2 13 t := (R.2.2.2.1 t ht2).2.2.2.2.2.2.1
    have F3 : fcJ_split_40 u (nI t) (0 : Int32) = some (3, (0 : Int32), u) := by
      unfold fcJ_split_40
      rw [bi_s ns0, if_neg (by decide)]
    have G3 : fm_split_32 w (nI t) (1 : Int32) (0 : Int32) = some ((0 : Int32), g_sI w 0 2) := by
      unfold fm_split_32
      rw [if_pos (by decide), if_neg (fun q => q rfl)]
      unfold fm_split_52
      by_cases q : w.1 2 = (60 : Int32)
      · rw [if_neg (fun y => y q)]
        unfold fm_split_66
        rw [bi_s (fm_thr_2 w 1)]
        dsimp only
        rw [if_neg (by decide)]
      · rw [if_pos q]
        unfold fm_split_66
        rw [bi_s (fm_thr_2 w 0)]
        dsimp only
        rw [if_neg (by decide)]
    have E1 : fcJ_split u p1 = if u.2 14 t = (-1 : Int32) then some (3, (0 : Int32), u) else (fcJ_isInOpenEvent u (nI t)).bind fun v9 => if v9 = 0 then some (3, (0 : Int32), u) else fcJ_split_40 u (nI t) (1 : Int32) := by
      unfold fcJ_split
      rw [bi_s (isb1 h), bi_s nk1, if_pos rfl, ht, ck_nI (n := 121) (by omega) (by decide), ct, F3]
    have E2 : fm_split w p1 = if w.2 13 t < 0 then some ((0 : Int32), g_sI w 0 2) else (fm_isOpen w (nI t)).bind fun v9 => if v9 = 0 then some ((0 : Int32), g_sI w 0 2) else fm_split_32 w (nI t) (1 : Int32) (1 : Int32) := by
      unfold fm_split
      rw [bi_s (isc1 J (by rw [← RA_z R]; exact h)), if_neg (by decide), ht, ck_nI (n := 120) (by omega) (by decide), ct, G3]
    have F : fcJ_split u p1 = some (3, (0 : Int32), u) → fm_split w p1 = some ((0 : Int32), g_sI w 0 2) → ∃ rv rz, fcJ_split u p1 = some rv ∧ fm_split w p1 = some rz ∧ RA rv.2.2 rz.2 ∧ RS rv.2.2 ∧ rz.2.1 0 = lwc [1, 3, 4] rv.1 ∧ (rv.1 = 0 → rv.2.1 = rz.1) := fun a b => ⟨_, _, a, b, RA_0 R 2, S, by show (2 : Int32) = lwc [1, 3, 4] 3; decide, fun q => by simp at q⟩
    by_cases a1 : u.2 14 t = -1
    · rw [if_pos a1] at E1
      rw [if_pos (Int32.lt_iff_toInt_lt.mpr (by rw [← e14, a1]; decide))] at E2
      exact F E1 E2
    · have h14 : 0 ≤ (u.2 14 t).toInt := by
        rcases Int.lt_or_le (u.2 14 t).toInt 0 with y | y
        · exact absurd (Int32.toInt_inj.mp (by omega)) a1
        · exact y
      have ho := op_m J t120
      rw [← ev_eq R S I ht2] at ho
      rw [if_neg a1, bi_s (op_c I (c := t) (by omega))] at E1
      rw [if_neg (fun q => by have := Int32.lt_iff_toInt_lt.mp q; rw [← e14] at this; omega), bi_s ho] at E2
      by_cases a2 : opV (u.2 17 (u.2 13 t).toNatClampNeg) = 0
      · rw [if_pos a2] at E1 E2
        exact F E1 E2
      · rw [if_neg a2] at E1 E2
        obtain ⟨N, hN, hN2, -⟩ := nat_of (p := u.1 0) (n := 121) (by omega)
        obtain ⟨M, hM, hM2, -⟩ := nat_of (p := u.1 1) (n := 61) (by omega)
        have hNi : (u.1 0).toInt = N := by rw [hN, nI_toInt (by omega)]
        have hMi : (u.1 1).toInt = M := by rw [hM, nI_toInt (by omega)]
        have hMw : w.1 2 = nI M := by rw [← RA_e R]; exact hM
        by_cases a3 : M = 60
        · have D1 : fcJ_split_40 u (nI t) (1 : Int32) = some (4, (0 : Int32), u) := by
            unfold fcJ_split_40
            rw [bi_s ns1, if_pos rfl, if_pos (Int32.le_iff_toInt_le.mpr (by omega))]
            unfold fcJ_split_60
            rw [bi_s nr0, if_neg (by decide)]
          have D2 : fm_split_32 w (nI t) (1 : Int32) (1 : Int32) = some ((0 : Int32), g_sI w 0 3) := by
            unfold fm_split_32
            rw [if_pos (by decide), if_pos (by decide)]
            unfold fm_split_52
            rw [if_neg (fun y => y (by rw [hMw, a3]; rfl))]
            unfold fm_split_66
            rw [bi_s (fm_thr_3 w)]
            dsimp only
            rw [if_neg (by decide)]
          exact ⟨_, _, E1.trans D1, E2.trans D2, RA_0 R 3, S, by show (3 : Int32) = lwc [1, 3, 4] 4; decide, fun q => by simp at q⟩
        · have hM3 : M < 60 := by omega
          have D1 : fcJ_split_40 u (nI t) (1 : Int32) = some (0, nI M, spC u t M N) := by
            unfold fcJ_split_40
            rw [bi_s ns1, if_pos rfl, if_neg (fun q => by have := Int32.le_iff_toInt_le.mp q; omega)]
            exact splitc_go I t120 hM hM3 hN (by omega)
          obtain ⟨w', g1, g2, g3, g4⟩ := split_go R S I J hN (by omega) hM hM3 (by omega) h14
          have D2 : fm_split_32 w (nI t) (1 : Int32) (1 : Int32) = some (nI M, w') := by
            unfold fm_split_32
            rw [if_pos (by decide), if_pos (by decide)]
            unfold fm_split_52
            rw [if_pos (fun y => a3 (by have := congrArg Int32.toInt y; rw [hMw, nI_toInt (by omega)] at this; omega))]
            exact g1
          exact ⟨_, _, E1.trans D1, E2.trans D2, g3, g4, by show w'.1 0 = lwc [1, 3, 4] 0; rw [g2]; decide, fun _ => rfl⟩
  · have E1 : fcJ_split u p1 = some (1, (0 : Int32), u) := by
      unfold fcJ_split
      rw [bi_s (isb0 h), bi_s nk0, if_neg (by decide)]
    have E2 : fm_split w p1 = some ((0 : Int32), g_sI w 0 1) := by
      unfold fm_split
      rw [bi_s (isc0 J (by rw [← RA_z R]; exact h)), if_pos rfl]
      unfold fm_split_32
      rw [if_neg (fun q => q rfl), if_neg (fun q => q rfl)]
      unfold fm_split_52
      by_cases q : w.1 2 = (60 : Int32)
      · rw [if_neg (fun y => y q)]
        unfold fm_split_66
        rw [bi_s (fm_thr_1 w 1 1)]
        dsimp only
        rw [if_neg (by decide)]
      · rw [if_pos q]
        unfold fm_split_66
        rw [bi_s (fm_thr_1 w 1 0)]
        dsimp only
        rw [if_neg (by decide)]
    exact ⟨_, _, E1, E2, RA_0 R 1, S, by show (1 : Int32) = lwc [1, 3, 4] 1; decide, fun q => by simp at q⟩
end SPM
