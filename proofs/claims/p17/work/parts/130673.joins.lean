section JNS
variable {g : Nat → Int32} {u w : g_S}
theorem some_u {α : Type} {o : Option α} {a b : α} (h1 : o = some a) (h2 : o = some b) : a = b := Option.some.inj (h1.symm.trans h2)
theorem RA_i {w' : g_S} (h : w'.2 = w.2) (h1 : w'.1 1 = w.1 1) (h2 : w'.1 2 = w.1 2) (R : RA u w) : RA u w' := by
  unfold RA
  rw [h, h1, h2]
  exact R
theorem dseek (R : RA u w) (S : RS u) (I : IC g u) (J : IM g w) {p1 p2 p3 p4 p5 p6 : Int32} (hk : 0 ≤ p2.toInt ∧ p2.toInt ≤ 7) (hp : -1 ≤ p3.toInt ∧ p3.toInt ≤ 99999999) (ht : (latV u).toInt ≤ p6.toInt) :
    ∃ (N : Nat) (r h : Int32) (u1 v4 w' : g_S), u.1 0 = nI N ∧ N ≤ 120 ∧ fcA_draft u p1 p2 p3 p4 p5 p6 = some (nI N, u1) ∧ fcJ_seekReason u1 (nI N) = some v4 ∧ SB u v4 ∧ (v4.2 7 N = p1 ∧ v4.2 8 N = p2 ∧ v4.2 9 N = p3 ∧ v4.2 10 N = p4 ∧ v4.2 12 N = p6 ∧ v4.2 14 N = r ∧ v4.2 15 N = h ∧ v4.2 16 N = 0) ∧ fm_reason (g_sI w 0 0) p1 p2 p3 p4 p5 p6 = some (r, w') ∧ w'.2 = w.2 ∧ w'.1 0 = 0 ∧ w'.1 1 = w.1 1 ∧ w'.1 2 = w.1 2 ∧ w'.1 3 = h ∧ -1 ≤ r.toInt ∧ r.toInt < (u.1 0).toInt ∧ IC g v4 ∧ 0 ≤ p6.toInt := by
  have z := IC_s I
  have zm : (-1 : Int32).toInt = -1 := by decide
  have l0 := lat_0 S I
  obtain ⟨N, hN, hN2, -⟩ := nat_of (p := u.1 0) (n := 121) (by omega)
  obtain ⟨k, hk1, hk2, -⟩ := nat_of (p := p2) (n := 8) (by omega)
  have hN121 : N < 121 := by omega
  have hde := draft_e I p1 p2 p3 p4 p5 p6
  have hsb := SB_d I p1 p2 p3 p4 p5 p6
  rw [hN] at hde hsb
  obtain ⟨rd, hd, I1, -⟩ := okk_fcA_draft I (p1 := p1) (p2 := p2) (p3 := p3) (p4 := p4) (p5 := p5) (p6 := p6) hk.1 hk.2
  rw [some_u hd hde] at I1
  have I1 : IC g (dS u (nI N) p1 p2 p3 p4 p5 p6) := I1
  obtain ⟨D7, D8, D9, D10, D11, D12, D14, D15, D16⟩ := dS_r u (nI N) p1 p2 p3 p4 p5 p6
  rw [n31 hN121] at D7 D8 D9 D10 D11 D12 D14 D15 D16
  generalize dS u (nI N) p1 p2 p3 p4 p5 p6 = u1 at *
  have R1 : RA u1 (g_sI w 0 0) := RA_0 (RA_sb hsb R) 0
  have S1 : RS u1 := RS_sb hsb S
  obtain ⟨r, h, w', f1, f2, f3, f4, f5, f6, f7, f8, f9, f10, f11⟩ := seek_eq R1 S1 I1 (IM_ix J _ (by decide)) (d := N) (k := k) hN121 (by omega) (by rw [D8]; exact hk1) (by rw [D12]; omega) (by rw [D9]; exact hp)
  rw [D7, D9, D10, D11, D12, ← hk1] at f1
  have hu0 : u1.1 0 = u.1 0 := by rw [hsb.1]
  obtain ⟨v4, hv4, I4, -⟩ := okk_fcJ_seekReason I1 (p1 := nI N) (by rw [nI_toInt (by omega)]; omega) (by rw [nI_toInt (by omega)]; omega)
  have e4 := some_u hv4 f11
  have cN : ((nI N).toNatClampNeg : Int) = (u.1 0).toInt := by rw [n31 hN121, hN, nI_toInt (by omega)]
  refine ⟨N, r, h, u1, v4, w', hN, by omega, hde, hv4, ?_, ?_, f1, f2, f3, f4, f5, f6, f8, by rw [← hu0]; exact f9, I4, by omega⟩
  · rw [e4]
    by_cases q : r = -1
    · rw [if_pos q]; exact hsb
    · rw [if_neg q]
      unfold tkS
      exact SB_w (SB_w hsb 14 (by decide) _ _ (by omega)) 15 (by decide) _ _ (by omega)
  · rw [e4]
    by_cases q : r = -1
    · rw [if_pos q]
      exact ⟨D7, D8, D9, D10, D12, by rw [D14, q], by rw [D15, f10 q], D16⟩
    · rw [if_neg q]
      unfold tkS
      have n0 : (nI N).toNatClampNeg = N := n31 hN121
      refine ⟨?_, ?_, ?_, ?_, ?_, ?_, ?_, ?_⟩
      · rw [eqf_w 15 _ _ 7 (by decide), eqf_w 14 _ _ 7 (by decide)]; exact D7
      · rw [eqf_w 15 _ _ 8 (by decide), eqf_w 14 _ _ 8 (by decide)]; exact D8
      · rw [eqf_w 15 _ _ 9 (by decide), eqf_w 14 _ _ 9 (by decide)]; exact D9
      · rw [eqf_w 15 _ _ 10 (by decide), eqf_w 14 _ _ 10 (by decide)]; exact D10
      · rw [eqf_w 15 _ _ 12 (by decide), eqf_w 14 _ _ 12 (by decide)]; exact D12
      · rw [eqf_w 15 _ _ 14 (by decide), rdA, if_pos ⟨rfl, n0.symm⟩]
      · rw [rdA, if_pos ⟨rfl, n0.symm⟩]
      · rw [eqf_w 15 _ _ 16 (by decide), eqf_w 14 _ _ 16 (by decide)]; exact D16
theorem ik1 {v : Int32} (h : v.toInt = 1) : v = 1 := Int32.toInt_inj.mp (by rw [h]; decide)
theorem ik0 {v : Int32} (h : v.toInt = 0) : v = 0 := Int32.toInt_inj.mp (by rw [h]; decide)
theorem lk_reasonFor (R : RA u w) (S : RS u) (I : IC g u) (J : IM g w) (p1 p2 p3 p4 p5 p6 : Int32) : ∃ rv rz, fcJ_reasonFor u p1 p2 p3 p4 p5 p6 = some rv ∧ fm_reasonFor w p1 p2 p3 p4 p5 p6 = some rz ∧ RA rv.2.2 rz.2 ∧ RS rv.2.2 ∧ rz.2.1 0 = lwc [1, 2] rv.1 ∧ (rv.1 = 0 → rv.2.1 = rz.1) := by
  obtain ⟨c1, hc1, hc⟩ := okl_fcJ_needCallData I (p1 := p1) (p2 := p2) (p3 := p3) (p4 := p5) (p5 := p6)
  obtain ⟨v1, hv1, hv⟩ := okl_fm_isKnown (p0 := p2) (p1 := p5)
  obtain ⟨v2, hv2, hr⟩ := okl_fm_isRange J (p1 := p1) (p2 := p3) (p3 := p6)
  rw [← lat_eq R I] at hr
  rcases hc with ⟨a1, a2⟩ | ⟨a1, a2, a3⟩ | ⟨a1, a2, a3⟩
  · have E1 : fcJ_reasonFor u p1 p2 p3 p4 p5 p6 = some (1, (0 : Int32), u) := by
      unfold fcJ_reasonFor
      rw [bi_s hc1, a1, if_neg (by decide)]
    have v0 : v1 = 0 := ik0 (by omega)
    have E2 : fm_reasonFor w p1 p2 p3 p4 p5 p6 = some ((0 : Int32), g_sI w 0 1) := by
      unfold fm_reasonFor
      rw [bi_s hv1, v0, if_neg (fun q => q rfl)]
      unfold fm_reasonFor_15
      rw [bi_s hv2]
      by_cases q : v2 = 0
      · rw [if_neg (fun y => y q)]
        unfold fm_reasonFor_31
        rw [bi_s (fm_thr_1 w 1 0)]
        dsimp only
        rw [if_neg (by decide)]
      · rw [if_pos q]
        unfold fm_reasonFor_31
        rw [bi_s (fm_thr_1 w 0 0)]
        dsimp only
        rw [if_neg (by decide)]
    exact ⟨_, _, E1, E2, RA_0 R 1, S, by show (1 : Int32) = lwc [1, 2] 1; decide, fun q => by simp at q⟩
  · have E1 : fcJ_reasonFor u p1 p2 p3 p4 p5 p6 = some (2, (0 : Int32), u) := by
      unfold fcJ_reasonFor
      rw [bi_s hc1, a1, if_neg (by decide)]
    have v0 : v1 = 1 := ik1 (by omega)
    have v20 : v2 = 0 := ik0 (by omega)
    have E2 : fm_reasonFor w p1 p2 p3 p4 p5 p6 = some ((0 : Int32), g_sI w 0 2) := by
      unfold fm_reasonFor
      rw [bi_s hv1, v0, if_pos (by decide)]
      unfold fm_reasonFor_15
      rw [bi_s hv2, v20, if_neg (fun q => q rfl)]
      unfold fm_reasonFor_31
      rw [bi_s (fm_thr_2 w 0)]
      dsimp only
      rw [if_neg (by decide)]
    exact ⟨_, _, E1, E2, RA_0 R 2, S, by show (2 : Int32) = lwc [1, 2] 2; decide, fun q => by simp at q⟩
  · have v0 : v1 = 1 := ik1 (by omega)
    have v20 : v2 = 1 := ik1 (by omega)
    obtain ⟨N, r, h, u1, v4, w', hN, hN2, hde, hs, hsb, D, f1, f2, f3, f4, f5, f6, f8, f9, I4, -⟩ := dseek R S I J (p1 := p1) (p2 := p2) (p3 := p3) (p4 := p4) (p5 := p5) (p6 := p6) (by omega) (by omega) (by omega)
    have E1 : fcJ_reasonFor u p1 p2 p3 p4 p5 p6 = some (0, r, v4) := by
      unfold fcJ_reasonFor
      rw [bi_s hc1, a1, if_pos rfl, bi_s hde]
      dsimp only
      rw [bi_s hs, ck_nI (n := 121) (by omega) (by decide), n31 (by omega), D.2.2.2.2.2.1]
    have E2 : fm_reasonFor w p1 p2 p3 p4 p5 p6 = some (r, w') := by
      unfold fm_reasonFor
      rw [bi_s hv1, v0, if_pos (by decide)]
      unfold fm_reasonFor_15
      rw [bi_s hv2, v20, if_pos (by decide)]
      unfold fm_reasonFor_31
      rw [bi_s (fm_thr_0 w)]
      dsimp only
      rw [if_pos rfl, bi_s f1]
    exact ⟨_, _, E1, E2, RA_i f2 f4 f5 (RA_sb hsb R), RS_sb hsb S, by show w'.1 0 = lwc [1, 2] 0; rw [f3]; decide, fun _ => rfl⟩
theorem bgS_o (k c : Int32) (j : Nat) (hj : j < 17 ∨ 20 < j) : (bgS u k c).2 j = u.2 j := by
  show (g_sA (g_sA (g_sA (g_sA u 17 (u.1 1) (0 : Int32)) 18 (u.1 1) k) 19 (u.1 1) c) 20 (u.1 1) (-1 : Int32)).2 j = _
  rw [eqf_w 20 _ _ j (by omega), eqf_w 19 _ _ j (by omega), eqf_w 18 _ _ j (by omega), eqf_w 17 _ _ j (by omega)]
theorem bgS_e {M : Nat} (hM : u.1 1 = nI M) (hM2 : M < 60) (k c : Int32) (j e : Nat) (he : ¬ e = M) : (bgS u k c).2 j e = u.2 j e := by
  have q : ∀ (v : g_S) (k' : Nat) (x : Int32), (g_sA v k' (nI M) x).2 j e = v.2 j e := fun v k' x => by
    rw [rdA, n31 (by omega), if_neg (fun y => he y.2)]
  show (g_sA (g_sA (g_sA (g_sA u 17 (u.1 1) (0 : Int32)) 18 (u.1 1) k) 19 (u.1 1) c) 20 (u.1 1) (-1 : Int32)).2 j e = _
  rw [hM, q, q, q, q]
theorem bgS_n {M : Nat} (hM : u.1 1 = nI M) (hM2 : M < 60) (k c : Int32) : (bgS u k c).2 17 M = 0 ∧ (bgS u k c).2 18 M = k ∧ (bgS u k c).2 19 M = c ∧ (bgS u k c).2 20 M = -1 := by
  have n0 : (nI M).toNatClampNeg = M := n31 (by omega)
  have q : ∀ (v : g_S) (k' : Nat) (x : Int32), (g_sA v k' (nI M) x).2 k' M = x := fun v k' x => by
    rw [rdA, if_pos ⟨rfl, n0.symm⟩]
  have e : (bgS u k c).2 = (g_sA (g_sA (g_sA (g_sA u 17 (nI M) (0 : Int32)) 18 (nI M) k) 19 (nI M) c) 20 (nI M) (-1 : Int32)).2 := by
    unfold bgS
    rw [hM]
    rfl
  rw [e]
  refine ⟨?_, ?_, ?_, ?_⟩
  · rw [eqf_w 20 _ _ 17 (by decide), eqf_w 19 _ _ 17 (by decide), eqf_w 18 _ _ 17 (by decide), q]
  · rw [eqf_w 20 _ _ 18 (by decide), eqf_w 19 _ _ 18 (by decide), q]
  · rw [eqf_w 20 _ _ 19 (by decide), q]
  · rw [q]
theorem neS_o (j : Nat) (hj : j < 16 ∨ 17 < j) : (neS w).2 j = w.2 j := by
  show (g_sA (g_sA w 16 (w.1 2) (0 : Int32)) 17 (w.1 2) (-1 : Int32)).2 j = _
  rw [eqf_w 17 _ _ j (by omega), eqf_w 16 _ _ j (by omega)]
theorem neS_e {M : Nat} (hM : w.1 2 = nI M) (hM2 : M < 60) (j e : Nat) (he : ¬ e = M) : (neS w).2 j e = w.2 j e := by
  have q : ∀ (v : g_S) (k' : Nat) (x : Int32), (g_sA v k' (nI M) x).2 j e = v.2 j e := fun v k' x => by
    rw [rdA, n31 (by omega), if_neg (fun y => he y.2)]
  show (g_sA (g_sA w 16 (w.1 2) (0 : Int32)) 17 (w.1 2) (-1 : Int32)).2 j e = _
  rw [hM, q, q]
theorem neS_n {M : Nat} (hM : w.1 2 = nI M) (hM2 : M < 60) : (neS w).2 16 M = 0 ∧ (neS w).2 17 M = -1 := by
  have n0 : (nI M).toNatClampNeg = M := n31 (by omega)
  have q : ∀ (v : g_S) (k' : Nat) (x : Int32), (g_sA v k' (nI M) x).2 k' M = x := fun v k' x => by
    rw [rdA, if_pos ⟨rfl, n0.symm⟩]
  have e : (neS w).2 = (g_sA (g_sA w 16 (nI M) (0 : Int32)) 17 (nI M) (-1 : Int32)).2 := by
    unfold neS
    rw [hM]
    rfl
  rw [e]
  refine ⟨?_, ?_⟩
  · rw [eqf_w 17 _ _ 16 (by decide), q]
  · rw [q]
end JNS
