section CLS
variable {g : Nat → Int32} {u w : g_S}
theorem fmcall_go {p1 p2 p3 p4 p5 p6 r : Int32} {w' : g_S} (hv1 : fm_isKnown p2 p5 = some (1 : Int32)) (hv2 : fm_isRange w p1 p3 p6 = some (1 : Int32)) (h : ¬ w.1 1 = (120 : Int32)) (f1 : fm_reason (g_sI w 0 0) p1 p2 p3 p4 p5 p6 = some (r, w')) :
    fm_call w p1 p2 p3 p4 p5 p6 = if 0 ≤ r then fm_call_90 w' p1 p2 p3 p4 p6 r (0 : Int32) (0 : Int32) (0 : Int32) else if ¬ w'.1 2 = (60 : Int32) then fm_call_90 w' p1 p2 p3 p4 p6 r (0 : Int32) (0 : Int32) (0 : Int32) else fm_call_90 w' p1 p2 p3 p4 p6 r (0 : Int32) (0 : Int32) (1 : Int32) := by
  unfold fm_call
  rw [bi_s hv1, if_pos (by decide)]
  unfold fm_call_15
  rw [bi_s hv2, if_pos (by decide)]
  unfold fm_call_31
  rw [if_pos h]
  unfold fm_call_45
  rw [bi_s (fm_thr_0 w)]
  dsimp only
  rw [if_pos rfl, bi_s f1]
theorem fccall_go {p1 p2 p3 p4 p5 p6 r : Int32} {u1 v4 : g_S} {N : Nat} (hN2 : N ≤ 120) (hc1 : fcJ_needCallData u p1 p2 p3 p5 p6 = some 0) (h : ¬ (120 : Int32) ≤ u.1 0) (hde : fcA_draft u p1 p2 p3 p4 p5 p6 = some (nI N, u1)) (hs : fcJ_seekReason u1 (nI N) = some v4) (D14 : v4.2 14 N = r) :
    fcJ_call u p1 p2 p3 p4 p5 p6 = if ¬ r = -1 then (ck r 121 <| some (0, nI N, g_sI (g_sA v4 13 (nI N) (v4.2 13 r.toNatClampNeg)) 0 ((v4.1 0) + (1 : Int32)))) else if (60 : Int32) ≤ v4.1 1 then some (4, (0 : Int32), v4) else (fcE_begin v4 p2 (nI N)).bind fun v9 => some (0, nI N, g_sI (g_sA v9.2 13 (nI N) v9.1) 0 ((v9.2.1 0) + (1 : Int32))) := by
  have E : ∀ {β : Type} (x : Option β), ck (nI N) 121 x = x := fun x => ck_nI (by omega) (by decide)
  unfold fcJ_call
  rw [bi_s hc1, if_pos rfl, if_neg h]
  unfold fcJ_call_28
  rw [bi_s nr1, if_pos rfl, bi_s hde]
  dsimp only
  rw [bi_s hs, E, gl_r, n31 (by omega), D14]
  by_cases q : r = -1
  · have q' : ¬ ¬ r = -1 := fun y => y q
    rw [if_neg q', if_neg q']
    by_cases h6 : (60 : Int32) ≤ v4.1 1
    · rw [if_pos h6, if_pos h6]
      unfold fcJ_call_90
      rw [bi_s nr0, if_neg (by decide)]
    · rw [if_neg h6, if_neg h6]
      unfold fcJ_call_90
      rw [bi_s nr1, if_pos rfl]
      refine congrArg _ (funext fun v9 => ?_)
      rw [E]
      rfl
  · rw [if_pos q, if_pos q, E]
    rfl
theorem RAS_a (R : RA u w) (S : RS u) {v4 w' : g_S} {N : Nat} {p1 p2 p3 p4 p6 r h : Int32} (hN : u.1 0 = nI N) (hN2 : N < 120) (hsb : SB u v4) (D : v4.2 7 N = p1 ∧ v4.2 8 N = p2 ∧ v4.2 9 N = p3 ∧ v4.2 10 N = p4 ∧ v4.2 12 N = p6 ∧ v4.2 14 N = r ∧ v4.2 15 N = h ∧ v4.2 16 N = 0)
    (f2 : w'.2 = w.2) (f4 : w'.1 1 = w.1 1) (f5 : w'.1 2 = w.1 2) (f6 : w'.1 3 = h) (hr0 : 0 ≤ r.toInt) (hr1 : r.toInt < (u.1 0).toInt) (ht : 0 ≤ p6.toInt) (hp : -1 ≤ p3.toInt ∧ p3.toInt ≤ 99999999) (W : g_S) (hW : W = nrS (g_sI w' 0 0) (nI N) p1 p2 p3 p4 p6 r (w'.1 3)) :
    RA (g_sI (g_sA v4 13 (nI N) (v4.2 13 r.toNatClampNeg)) 0 ((v4.1 0) + (1 : Int32))) (g_sI (g_sA W 12 (nI N) (W.2 12 r.toNatClampNeg)) 1 ((W.1 1) + (1 : Int32))) ∧ RS (g_sI (g_sA v4 13 (nI N) (v4.2 13 r.toNatClampNeg)) 0 ((v4.1 0) + (1 : Int32))) := by
  obtain ⟨D7, D8, D9, D10, D12, D14, D15, D16⟩ := D
  obtain ⟨b1, b2, b3⟩ := id hsb
  have n0 : (nI N).toNatClampNeg = N := n31 (by omega)
  have hNi : (u.1 0).toInt = N := by rw [hN, nI_toInt (by omega)]
  have hrN : (r.toNatClampNeg : Int) = r.toInt := cl_I hr0
  have W1 : W.1 1 = w.1 1 := by rw [hW]; exact f4
  have W2 : W.1 2 = w.1 2 := by rw [hW]; exact f5
  have Wo : ∀ k, (k < 7 ∨ k = 12 ∨ 16 ≤ k) → W.2 k = w.2 k := fun k hk => by
    rw [hW, nrS_o _ _ _ _ _ _ _ _ k hk]
    show w'.2 k = w.2 k
    rw [f2]
  have Wc : ∀ k c : Nat, c < N → W.2 k c = w.2 k c := fun k c hc => by
    rw [hW, nrS_c hN2 _ _ _ _ _ _ _ k c hc]
    show w'.2 k c = w.2 k c
    rw [f2]
  have Wr := nrS_r (w := g_sI w' 0 0) hN2 p1 p2 p3 p4 p6 r (w'.1 3)
  rw [← hW] at Wr
  obtain ⟨r7, r8, r9, r10, r11, r13, r15, r14⟩ := Wr
  have hv0 : ((v4.1 0) + (1 : Int32)).toInt = N + 1 := by rw [b1, hN, nI_1, nI_toInt (by omega)]; omega
  have hev : v4.2 13 r.toNatClampNeg = W.2 12 r.toNatClampNeg := by
    rw [b3 13 r.toNatClampNeg (by omega), Wo 12 (by omega)]
    exact (R.2.2.2.1 r.toNatClampNeg (by omega)).2.2.2.2.2.1
  have c17 : ∀ k, 17 ≤ k → (g_sA v4 13 (nI N) (v4.2 13 r.toNatClampNeg)).2 k = u.2 k := fun k hk => by
    rw [eqf_w 13 _ _ k (by omega), b2 k (Or.inr hk)]
  have cl : ∀ k, k < 7 → (g_sA v4 13 (nI N) (v4.2 13 r.toNatClampNeg)).2 k = u.2 k := fun k hk => by
    rw [eqf_w 13 _ _ k (by omega), b2 k (Or.inl hk)]
  have cc : ∀ k c : Nat, c < N → (g_sA v4 13 (nI N) (v4.2 13 r.toNatClampNeg)).2 k c = u.2 k c := fun k c hc => by
    rw [rdA, n0, if_neg (fun y => by have := y.2; omega), b3 k c (by omega)]
  have cn : ∀ k : Nat, ¬ k = 13 → (g_sA v4 13 (nI N) (v4.2 13 r.toNatClampNeg)).2 k N = v4.2 k N := fun k hk => eq_w 13 _ _ k N hk
  have c13 : (g_sA v4 13 (nI N) (v4.2 13 r.toNatClampNeg)).2 13 N = v4.2 13 r.toNatClampNeg := by rw [rdA, if_pos ⟨rfl, n0.symm⟩]
  have mn : ∀ k : Nat, ¬ k = 12 → (g_sA W 12 (nI N) (W.2 12 r.toNatClampNeg)).2 k N = W.2 k N := fun k hk => eq_w 12 _ _ k N hk
  have m12 : (g_sA W 12 (nI N) (W.2 12 r.toNatClampNeg)).2 12 N = W.2 12 r.toNatClampNeg := by rw [rdA, if_pos ⟨rfl, n0.symm⟩]
  have mc : ∀ k c : Nat, c < N → (g_sA W 12 (nI N) (W.2 12 r.toNatClampNeg)).2 k c = w.2 k c := fun k c hc => by
    rw [rdA, n0, if_neg (fun y => by have := y.2; omega), Wc k c hc]
  have mo : ∀ k, (k < 7 ∨ 16 ≤ k) → (g_sA W 12 (nI N) (W.2 12 r.toNatClampNeg)).2 k = w.2 k := fun k hk => by
    rw [eqf_w 12 _ _ k (by omega), Wo k (by omega)]
  have b10 : v4.1 1 = u.1 1 := by rw [b1]
  refine ⟨RA_add (N := N) R hNi hv0 ?_ ?_ (fun k hk => ⟨cl k hk, mo k (Or.inl hk)⟩) (fun k c _ _ hc => cc k c hc) (fun k c _ _ hc => mc k c hc) ?_ (fun e he => ?_), RS_add (N := N) S hNi hv0 ?_ (cl 6 (by decide)) (fun k c _ _ hc => cc k c hc) ?_ (fun _ => ?_) (fun e he => ⟨?_, ?_, ?_⟩) (fun e he q => ?_) (fun e he q => ?_)⟩
  · show (v4.1 0) + (1 : Int32) = (W.1 1) + (1 : Int32)
    rw [W1, b1, RA_z R]
  · show v4.1 1 = W.1 2
    rw [W2, b10, RA_e R]
  · refine ⟨(cn 7 (by decide)).trans (D7.trans (r7.symm.trans (mn 7 (by decide)).symm)), (cn 8 (by decide)).trans (D8.trans (r8.symm.trans (mn 8 (by decide)).symm)), (cn 9 (by decide)).trans (D9.trans (r9.symm.trans (mn 9 (by decide)).symm)), (cn 10 (by decide)).trans (D10.trans (r10.symm.trans (mn 10 (by decide)).symm)), (cn 12 (by decide)).trans (D12.trans (r11.symm.trans (mn 11 (by decide)).symm)), c13.trans (hev.trans m12.symm), (cn 14 (by decide)).trans (D14.trans (r13.symm.trans (mn 13 (by decide)).symm)), (cn 15 (by decide)).trans (D15.trans (f6.symm.trans (r15.symm.trans (mn 15 (by decide)).symm))), (cn 16 (by decide)).trans (D16.trans (r14.symm.trans (mn 14 (by decide)).symm))⟩
  · have he : (e : Int) < (v4.1 1).toInt := he
    rw [b10] at he
    have q := R.2.2.2.2 e he
    rw [← c17 17 (by decide), ← c17 20 (by decide), ← c17 21 (by decide), ← c17 22 (by decide), ← mo 16 (by decide), ← mo 17 (by decide), ← mo 18 (by decide), ← mo 19 (by decide)] at q
    exact q
  · show (u.1 1).toInt ≤ (v4.1 1).toInt
    rw [b10]; exact Int.le_refl _
  · show 0 ≤ ((g_sA v4 13 (nI N) (v4.2 13 r.toNatClampNeg)).2 12 N).toInt ∧ -1 ≤ ((g_sA v4 13 (nI N) (v4.2 13 r.toNatClampNeg)).2 9 N).toInt ∧ ((g_sA v4 13 (nI N) (v4.2 13 r.toNatClampNeg)).2 9 N).toInt ≤ 99999999 ∧ ((g_sA v4 13 (nI N) (v4.2 13 r.toNatClampNeg)).2 13 N).toInt < (v4.1 1).toInt ∧ ((g_sA v4 13 (nI N) (v4.2 13 r.toNatClampNeg)).2 14 N).toInt ≤ N
    rw [cn 12 (by decide), cn 9 (by decide), cn 14 (by decide), c13, D12, D9, D14, b10, b3 13 r.toNatClampNeg (by omega)]
    exact ⟨ht, hp.1, hp.2, (S.2.1 r.toNatClampNeg (by omega)).2.2.2.1, by omega⟩
  · show (g_sA v4 13 (nI N) (v4.2 13 r.toNatClampNeg)).2 13 ((g_sA v4 13 (nI N) (v4.2 13 r.toNatClampNeg)).2 14 N).toNatClampNeg = (g_sA v4 13 (nI N) (v4.2 13 r.toNatClampNeg)).2 13 N
    rw [cn 14 (by decide), D14, c13, cc 13 r.toNatClampNeg (by omega), b3 13 r.toNatClampNeg (by omega)]
  · exact congrFun (c17 17 (by decide)) e
  · exact congrFun (c17 18 (by decide)) e
  · exact congrFun (c17 19 (by decide)) e
  · show ¬ ((g_sA v4 13 (nI N) (v4.2 13 r.toNatClampNeg)).2 14 N).toInt < 0
    rw [cn 14 (by decide), D14]; omega
  · have q : (e : Int) < (v4.1 1).toInt := q
    rw [b10] at q
    exact absurd q he
theorem RAS_b (R : RA u w) (S : RS u) {v4 w' : g_S} {N M : Nat} {p1 p2 p3 p4 p6 r h : Int32} (hN : u.1 0 = nI N) (hN2 : N < 120) (hM : u.1 1 = nI M) (hM2 : M < 60) (hsb : SB u v4) (D : v4.2 7 N = p1 ∧ v4.2 8 N = p2 ∧ v4.2 9 N = p3 ∧ v4.2 10 N = p4 ∧ v4.2 12 N = p6 ∧ v4.2 14 N = r ∧ v4.2 15 N = h ∧ v4.2 16 N = 0)
    (f2 : w'.2 = w.2) (f4 : w'.1 1 = w.1 1) (f5 : w'.1 2 = w.1 2) (f6 : w'.1 3 = h) (hr : r = -1) (ht : 0 ≤ p6.toInt) (hp : -1 ≤ p3.toInt ∧ p3.toInt ≤ 99999999) (W : g_S) (hW : W = nrS (g_sI w' 0 0) (nI N) p1 p2 p3 p4 p6 r (w'.1 3)) (B : g_S) (hB : B = bgS v4 p2 (nI N)) (K : g_S) (hK : K = neS W) :
    RA (g_sI (g_sA B 13 (nI N) (v4.1 1)) 0 ((B.1 0) + (1 : Int32))) (g_sI (g_sA K 12 (nI N) (W.1 2)) 1 ((K.1 1) + (1 : Int32))) ∧ RS (g_sI (g_sA B 13 (nI N) (v4.1 1)) 0 ((B.1 0) + (1 : Int32))) := by
  obtain ⟨D7, D8, D9, D10, D12, D14, D15, D16⟩ := D
  obtain ⟨b1, b2, b3⟩ := id hsb
  have zm : (-1 : Int32).toInt = -1 := by decide
  have n0 : (nI N).toNatClampNeg = N := n31 (by omega)
  have hNi : (u.1 0).toInt = N := by rw [hN, nI_toInt (by omega)]
  have hMi : (u.1 1).toInt = M := by rw [hM, nI_toInt (by omega)]
  have v1 : v4.1 1 = nI M := by rw [b1]; exact hM
  have B0 : B.1 0 = nI N := by rw [hB]; show v4.1 0 = nI N; rw [b1]; exact hN
  have B1 : B.1 1 = nI (M + 1) := by rw [hB]; show (v4.1 1) + (1 : Int32) = _; rw [v1, nI_1]
  have W1 : W.1 1 = w.1 1 := by rw [hW]; exact f4
  have W2 : W.1 2 = nI M := by rw [hW]; show w'.1 2 = nI M; rw [f5, ← RA_e R]; exact hM
  have K1 : K.1 1 = nI N := by rw [hK]; show W.1 1 = nI N; rw [W1, ← RA_z R]; exact hN
  have K2 : K.1 2 = nI (M + 1) := by rw [hK]; show (W.1 2) + (1 : Int32) = _; rw [W2, nI_1]
  have Wo : ∀ k, (k < 7 ∨ k = 12 ∨ 16 ≤ k) → W.2 k = w.2 k := fun k hk => by
    rw [hW, nrS_o _ _ _ _ _ _ _ _ k hk]
    show w'.2 k = w.2 k
    rw [f2]
  have Wc : ∀ k c : Nat, c < N → W.2 k c = w.2 k c := fun k c hc => by
    rw [hW, nrS_c hN2 _ _ _ _ _ _ _ k c hc]
    show w'.2 k c = w.2 k c
    rw [f2]
  have Wr := nrS_r (w := g_sI w' 0 0) hN2 p1 p2 p3 p4 p6 r (w'.1 3)
  rw [← hW] at Wr
  obtain ⟨r7, r8, r9, r10, r11, r13, r15, r14⟩ := Wr
  have Bo : ∀ j, (j < 17 ∨ 20 < j) → B.2 j = v4.2 j := fun j hj => by rw [hB]; exact bgS_o _ _ j hj
  have Be : ∀ j e : Nat, ¬ e = M → B.2 j e = v4.2 j e := fun j e he => by rw [hB]; exact bgS_e v1 hM2 _ _ j e he
  have Bn : B.2 17 M = 0 ∧ B.2 18 M = p2 ∧ B.2 19 M = nI N ∧ B.2 20 M = -1 := by rw [hB]; exact bgS_n v1 hM2 _ _
  have Ko : ∀ j, (j < 16 ∨ 17 < j) → K.2 j = W.2 j := fun j hj => by rw [hK]; exact neS_o j hj
  have Ke : ∀ j e : Nat, ¬ e = M → K.2 j e = W.2 j e := fun j e he => by rw [hK]; exact neS_e W2 hM2 j e he
  have Kn : K.2 16 M = 0 ∧ K.2 17 M = -1 := by rw [hK]; exact neS_n W2 hM2
  rw [v1, W2]
  have hv0 : ((B.1 0) + (1 : Int32)).toInt = N + 1 := by rw [B0, nI_1, nI_toInt (by omega)]; omega
  have hB1 : (B.1 1).toInt = M + 1 := by rw [B1, nI_toInt (by omega)]; omega
  have cl : ∀ k, k < 7 → (g_sA B 13 (nI N) (nI M)).2 k = u.2 k := fun k hk => by
    rw [eqf_w 13 _ _ k (by omega), Bo k (by omega), b2 k (Or.inl hk)]
  have cc : ∀ k c : Nat, k < 17 → c < N → (g_sA B 13 (nI N) (nI M)).2 k c = u.2 k c := fun k c hk hc => by
    rw [rdA, n0, if_neg (fun y => by have := y.2; omega), Bo k (by omega), b3 k c (by omega)]
  have cn : ∀ k : Nat, k < 17 → ¬ k = 13 → (g_sA B 13 (nI N) (nI M)).2 k N = v4.2 k N := fun k hk h13 => by rw [eq_w 13 _ _ k N h13, Bo k (by omega)]
  have c13 : (g_sA B 13 (nI N) (nI M)).2 13 N = nI M := by rw [rdA, if_pos ⟨rfl, n0.symm⟩]
  have ce : ∀ k e : Nat, 17 ≤ k → ¬ e = M → (g_sA B 13 (nI N) (nI M)).2 k e = u.2 k e := fun k e hk he => by
    rw [eq_w 13 _ _ k e (by omega), Be k e he, b2 k (Or.inr hk)]
  have cE : ∀ k : Nat, 17 ≤ k → (g_sA B 13 (nI N) (nI M)).2 k M = B.2 k M := fun k hk => eq_w 13 _ _ k M (by omega)
  have mn : ∀ k : Nat, k < 16 → ¬ k = 12 → (g_sA K 12 (nI N) (nI M)).2 k N = W.2 k N := fun k hk h12 => by rw [eq_w 12 _ _ k N h12, Ko k (by omega)]
  have m12 : (g_sA K 12 (nI N) (nI M)).2 12 N = nI M := by rw [rdA, if_pos ⟨rfl, n0.symm⟩]
  have mc : ∀ k c : Nat, k < 16 → c < N → (g_sA K 12 (nI N) (nI M)).2 k c = w.2 k c := fun k c hk hc => by
    rw [rdA, n0, if_neg (fun y => by have := y.2; omega), Ko k (by omega), Wc k c hc]
  have ml : ∀ k, k < 7 → (g_sA K 12 (nI N) (nI M)).2 k = w.2 k := fun k hk => by
    rw [eqf_w 12 _ _ k (by omega), Ko k (by omega), Wo k (by omega)]
  have me : ∀ k e : Nat, 16 ≤ k → ¬ e = M → (g_sA K 12 (nI N) (nI M)).2 k e = w.2 k e := fun k e hk he => by
    rw [eq_w 12 _ _ k e (by omega), Ke k e he, Wo k (by omega)]
  have mE : ∀ k : Nat, 16 ≤ k → (g_sA K 12 (nI N) (nI M)).2 k M = K.2 k M := fun k hk => eq_w 12 _ _ k M (by omega)
  have nm : (nI M).toInt = M := nI_toInt (by omega)
  refine ⟨RA_add (N := N) R hNi hv0 ?_ ?_ (fun k hk => ⟨cl k hk, ml k hk⟩) (fun k c _ hk hc => cc k c hk hc) (fun k c _ hk hc => mc k c hk hc) ?_ (fun e he => ?_), RS_add (N := N) S hNi hv0 ?_ (cl 6 (by decide)) (fun k c _ hk hc => cc k c hk hc) ?_ (fun q => ?_) (fun e he => ⟨?_, ?_, ?_⟩) (fun e he q => ?_) (fun e he q => ?_)⟩
  · show (B.1 0) + (1 : Int32) = (K.1 1) + (1 : Int32)
    rw [B0, K1]
  · show B.1 1 = K.1 2
    rw [B1, K2]
  · refine ⟨(cn 7 (by decide) (by decide)).trans (D7.trans (r7.symm.trans (mn 7 (by decide) (by decide)).symm)), (cn 8 (by decide) (by decide)).trans (D8.trans (r8.symm.trans (mn 8 (by decide) (by decide)).symm)), (cn 9 (by decide) (by decide)).trans (D9.trans (r9.symm.trans (mn 9 (by decide) (by decide)).symm)), (cn 10 (by decide) (by decide)).trans (D10.trans (r10.symm.trans (mn 10 (by decide) (by decide)).symm)), (cn 12 (by decide) (by decide)).trans (D12.trans (r11.symm.trans (mn 11 (by decide) (by decide)).symm)), c13.trans m12.symm, (cn 14 (by decide) (by decide)).trans (D14.trans (r13.symm.trans (mn 13 (by decide) (by decide)).symm)), (cn 15 (by decide) (by decide)).trans (D15.trans (f6.symm.trans (r15.symm.trans (mn 15 (by decide) (by decide)).symm))), (cn 16 (by decide) (by decide)).trans (D16.trans (r14.symm.trans (mn 14 (by decide) (by decide)).symm))⟩
  · have he : (e : Int) < (B.1 1).toInt := he
    by_cases y : e = M
    · rw [y]
      show (g_sA B 13 (nI N) (nI M)).2 17 M = (g_sA K 12 (nI N) (nI M)).2 16 M ∧ (¬ (g_sA B 13 (nI N) (nI M)).2 17 M = 3 → (g_sA B 13 (nI N) (nI M)).2 20 M = (g_sA K 12 (nI N) (nI M)).2 17 M ∧ (¬ (g_sA B 13 (nI N) (nI M)).2 20 M = -1 → _))
      rw [cE 17 (by decide), cE 20 (by decide), mE 16 (by decide), mE 17 (by decide), Bn.1, Bn.2.2.2, Kn.1, Kn.2]
      exact ⟨rfl, fun _ => ⟨rfl, fun q => absurd rfl q⟩⟩
    · have q := R.2.2.2.2 e (by omega)
      rw [← ce 17 e (by decide) y, ← ce 20 e (by decide) y, ← ce 21 e (by decide) y, ← ce 22 e (by decide) y, ← me 16 e (by decide) y, ← me 17 e (by decide) y, ← me 18 e (by decide) y, ← me 19 e (by decide) y] at q
      exact q
  · show (u.1 1).toInt ≤ (B.1 1).toInt
    omega
  · show 0 ≤ ((g_sA B 13 (nI N) (nI M)).2 12 N).toInt ∧ -1 ≤ ((g_sA B 13 (nI N) (nI M)).2 9 N).toInt ∧ ((g_sA B 13 (nI N) (nI M)).2 9 N).toInt ≤ 99999999 ∧ ((g_sA B 13 (nI N) (nI M)).2 13 N).toInt < (B.1 1).toInt ∧ ((g_sA B 13 (nI N) (nI M)).2 14 N).toInt ≤ N
    rw [cn 12 (by decide) (by decide), cn 9 (by decide) (by decide), cn 14 (by decide) (by decide), c13, D12, D9, D14, hr, nm, zm]
    exact ⟨ht, hp.1, hp.2, by omega, by omega⟩
  · have q : 0 ≤ ((g_sA B 13 (nI N) (nI M)).2 14 N).toInt := q
    rw [cn 14 (by decide) (by decide), D14, hr, zm] at q
    exact absurd q (by decide)
  · exact ce 17 e (by decide) (by omega)
  · exact ce 18 e (by decide) (by omega)
  · exact ce 19 e (by decide) (by omega)
  · have q : ((g_sA B 13 (nI N) (nI M)).2 13 N).toInt = e := q
    rw [c13, nm] at q
    exfalso; omega
  · have q : (e : Int) < (B.1 1).toInt := q
    obtain rfl : e = M := by omega
    show ((g_sA B 13 (nI N) (nI e)).2 19 e).toInt = N ∧ ((g_sA B 13 (nI N) (nI e)).2 13 N).toInt = e ∧ (g_sA B 13 (nI N) (nI e)).2 14 N = -1 ∧ (g_sA B 13 (nI N) (nI e)).2 18 e = (g_sA B 13 (nI N) (nI e)).2 8 N
    rw [cE 19 (by decide), cE 18 (by decide), cn 14 (by decide) (by decide), cn 8 (by decide) (by decide), c13, Bn.2.1, Bn.2.2.1, D14, D8, nm, nI_toInt (by omega)]
    exact ⟨rfl, rfl, hr, rfl⟩
end CLS
