section ADD
variable {g : Nat → Int32} {u w : g_S}
theorem RA_add {u' w' : g_S} {N : Nat} (R : RA u w) (hN : (u.1 0).toInt = N) (h0 : (u'.1 0).toInt = N + 1) (e0 : u'.1 0 = w'.1 1) (e1 : u'.1 1 = w'.1 2)
    (hl : ∀ k, k < 7 → u'.2 k = u.2 k ∧ w'.2 k = w.2 k)
    (hc : ∀ k c : Nat, 7 ≤ k → k < 17 → c < N → u'.2 k c = u.2 k c) (hd : ∀ k c : Nat, 7 ≤ k → k < 16 → c < N → w'.2 k c = w.2 k c)
    (hn : u'.2 7 N = w'.2 7 N ∧ u'.2 8 N = w'.2 8 N ∧ u'.2 9 N = w'.2 9 N ∧ u'.2 10 N = w'.2 10 N ∧ u'.2 12 N = w'.2 11 N ∧ u'.2 13 N = w'.2 12 N ∧ u'.2 14 N = w'.2 13 N ∧ u'.2 15 N = w'.2 15 N ∧ u'.2 16 N = w'.2 14 N)
    (he : ∀ e : Nat, (e : Int) < (u'.1 1).toInt → u'.2 17 e = w'.2 16 e ∧ (¬ u'.2 17 e = 3 → u'.2 20 e = w'.2 17 e ∧ (¬ u'.2 20 e = -1 → (u'.2 21 e = w'.2 18 e ∧ u'.2 22 e = w'.2 19 e ∧ (w'.2 18 e).toInt < (w'.2 19 e).toInt) ∨ (u'.2 21 e = w'.2 19 e ∧ u'.2 22 e = w'.2 18 e ∧ (w'.2 19 e).toInt < (w'.2 18 e).toInt)))) : RA u' w' := by
  refine ⟨e0, e1, fun k hk => ?_, fun c q => ?_, he⟩
  · rw [(hl k hk).1, (hl k hk).2]; exact R.2.2.1 k hk
  · by_cases y : c = N
    · rw [y]; exact hn
    · have hcN : c < N := by omega
      rw [hc 7 c (by omega) (by omega) hcN, hc 8 c (by omega) (by omega) hcN, hc 9 c (by omega) (by omega) hcN, hc 10 c (by omega) (by omega) hcN, hc 12 c (by omega) (by omega) hcN, hc 13 c (by omega) (by omega) hcN, hc 14 c (by omega) (by omega) hcN, hc 15 c (by omega) (by omega) hcN, hc 16 c (by omega) (by omega) hcN,
        hd 7 c (by omega) (by omega) hcN, hd 8 c (by omega) (by omega) hcN, hd 9 c (by omega) (by omega) hcN, hd 10 c (by omega) (by omega) hcN, hd 11 c (by omega) (by omega) hcN, hd 12 c (by omega) (by omega) hcN, hd 13 c (by omega) (by omega) hcN, hd 15 c (by omega) (by omega) hcN, hd 14 c (by omega) (by omega) hcN]
      exact R.2.2.2.1 c (by omega)
theorem RS_add {u' : g_S} {N : Nat} (S : RS u) (hN : (u.1 0).toInt = N) (h0 : (u'.1 0).toInt = N + 1) (h1 : (u.1 1).toInt ≤ (u'.1 1).toInt) (h6 : u'.2 6 = u.2 6)
    (hc : ∀ k c : Nat, 7 ≤ k → k < 17 → c < N → u'.2 k c = u.2 k c)
    (n1 : 0 ≤ (u'.2 12 N).toInt ∧ -1 ≤ (u'.2 9 N).toInt ∧ (u'.2 9 N).toInt ≤ 99999999 ∧ (u'.2 13 N).toInt < (u'.1 1).toInt ∧ (u'.2 14 N).toInt ≤ N)
    (n2 : 0 ≤ (u'.2 14 N).toInt → u'.2 13 (u'.2 14 N).toNatClampNeg = u'.2 13 N)
    (ho : ∀ e : Nat, (e : Int) < (u.1 1).toInt → u'.2 17 e = u.2 17 e ∧ u'.2 18 e = u.2 18 e ∧ u'.2 19 e = u.2 19 e)
    (hx : ∀ e : Nat, (e : Int) < (u.1 1).toInt → (u'.2 13 N).toInt = e → ¬ (u'.2 14 N).toInt < 0)
    (hy : ∀ e : Nat, ¬ (e : Int) < (u.1 1).toInt → (e : Int) < (u'.1 1).toInt → (u'.2 19 e).toInt = N ∧ (u'.2 13 N).toInt = e ∧ u'.2 14 N = -1 ∧ u'.2 18 e = u'.2 8 N) : RS u' := by
  obtain ⟨s1, s2, s3, s4⟩ := S
  refine ⟨by rw [h6]; exact s1, fun c q => ?_, fun c q hr => ?_, fun e he h3 => ?_⟩
  · by_cases y : c = N
    · rw [y]; exact ⟨n1.1, n1.2.1, n1.2.2.1, n1.2.2.2.1, by have := n1.2.2.2.2; omega⟩
    · have hcN : c < N := by omega
      rw [hc 12 c (by omega) (by omega) hcN, hc 9 c (by omega) (by omega) hcN, hc 13 c (by omega) (by omega) hcN, hc 14 c (by omega) (by omega) hcN]
      obtain ⟨a1, a2, a3, a4, a5⟩ := s2 c (by omega)
      exact ⟨a1, a2, a3, by omega, by omega⟩
  · by_cases y : c = N
    · rw [y] at hr ⊢; exact n2 hr
    · have hcN : c < N := by omega
      rw [hc 14 c (by omega) (by omega) hcN] at hr ⊢
      have a5 := (s2 c (by omega)).2.2.2.2
      have hcl : ((u.2 14 c).toNatClampNeg : Int) = (u.2 14 c).toInt := cl_I hr
      rw [hc 13 (u.2 14 c).toNatClampNeg (by omega) (by omega) (by omega), hc 13 c (by omega) (by omega) hcN]
      exact s3 c (by omega) hr
  · by_cases y : (e : Int) < (u.1 1).toInt
    · obtain ⟨o17, o18, o19⟩ := ho e y
      rw [o17] at h3
      obtain ⟨a1, a2, a3, a4, a5, a6⟩ := s4 e y h3
      have hcl : ((u.2 19 e).toNatClampNeg : Int) = (u.2 19 e).toInt := cl_I a1
      have hfN : (u.2 19 e).toNatClampNeg < N := by omega
      rw [o18, o19, hc 13 (u.2 19 e).toNatClampNeg (by omega) (by omega) hfN, hc 14 (u.2 19 e).toNatClampNeg (by omega) (by omega) hfN, hc 8 (u.2 19 e).toNatClampNeg (by omega) (by omega) hfN]
      refine ⟨a1, by omega, a3, a4, a5, fun c q b1 b2 => ?_⟩
      by_cases z : c = N
      · rw [z] at b1 b2; exact absurd b2 (hx e y b1)
      · have hcN : c < N := by omega
        rw [hc 13 c (by omega) (by omega) hcN] at b1
        rw [hc 14 c (by omega) (by omega) hcN] at b2
        exact a6 c (by omega) b1 b2
    · obtain ⟨b1, b2, b3, b4⟩ := hy e y he
      have hcl : ((u'.2 19 e).toNatClampNeg : Int) = (u'.2 19 e).toInt := cl_I (by omega)
      have e9 : (u'.2 19 e).toNatClampNeg = N := by omega
      rw [e9]
      refine ⟨by omega, by omega, b2, b3, b4, fun c q d1 d2 => ?_⟩
      by_cases z : c = N
      · rw [z]; omega
      · have hcN : c < N := by omega
        rw [hc 13 c (by omega) (by omega) hcN] at d1
        have := (s2 c (by omega)).2.2.2.1
        omega
def bgS (u : g_S) (k c : Int32) : g_S := g_sI (g_sA (g_sA (g_sA (g_sA u 17 (u.1 1) (0 : Int32)) 18 (u.1 1) k) 19 (u.1 1) c) 20 (u.1 1) (-1 : Int32)) 1 ((u.1 1) + (1 : Int32))
theorem begin_e (I : IC g u) (h : (u.1 1).toInt < 60) (k c : Int32) : fcE_begin u k c = some (u.1 1, bgS u k c) := by
  have z := IC_s I
  have hv : vp_in (u.1 1) 60 := vp_I (by omega) (by omega)
  unfold fcE_begin
  rw [ck_in hv]
  show ck (u.1 1) 60 _ = _
  rw [ck_in hv]
  show ck (u.1 1) 60 _ = _
  rw [ck_in hv]
  show ck (u.1 1) 60 _ = _
  rw [ck_in hv]
  show some (((u.1 1) + (1 : Int32)) - (1 : Int32), bgS u k c) = _
  rw [Int32.add_sub_cancel]
def neS (w : g_S) : g_S := g_sI (g_sA (g_sA w 16 (w.1 2) (0 : Int32)) 17 (w.1 2) (-1 : Int32)) 2 ((w.1 2) + (1 : Int32))
theorem newEvent_e (h0 : 0 ≤ (w.1 2).toInt) (h : (w.1 2).toInt < 60) : fm_newEvent w = some (w.1 2, neS w) := by
  have hv : vp_in (w.1 2) 60 := vp_I (by omega) (by omega)
  unfold fm_newEvent
  rw [ck_in hv]
  show ck (w.1 2) 60 _ = _
  rw [ck_in hv]
  show some (((w.1 2) + (1 : Int32)) - (1 : Int32), neS w) = _
  rw [Int32.add_sub_cancel]
theorem nr1 : fcJ_needRoom (1 : Int32) = some 0 := by decide
theorem nr0 : fcJ_needRoom (0 : Int32) = some 4 := by decide
theorem ns1 : fcJ_needState (1 : Int32) = some 0 := by decide
theorem ns0 : fcJ_needState (0 : Int32) = some 3 := by decide
theorem nk1 : fcJ_needKnown (1 : Int32) = some 0 := by decide
theorem nk0 : fcJ_needKnown (0 : Int32) = some 1 := by decide
theorem ng1 : fcJ_needRange (1 : Int32) = some 0 := by decide
theorem ng0 : fcJ_needRange (0 : Int32) = some 2 := by decide
def nrS (w : g_S) (i p1 p2 p3 p4 p6 r h : Int32) : g_S := g_sA (g_sA (g_sA (g_sA (g_sA (g_sA (g_sA (g_sA w 7 i p1) 8 i p2) 9 i p3) 10 i p4) 11 i p6) 14 i (0 : Int32)) 13 i r) 15 i h
theorem c90 {N : Nat} (hN : w.1 1 = nI N) (hN2 : N < 120) (x1 x2 x3 x4 x6 x7 : Int32) : fm_call_90 w x1 x2 x3 x4 x6 x7 (0 : Int32) (0 : Int32) (0 : Int32) = if 0 ≤ x7 then (ck x7 120 <| fm_call_199 (nrS (g_sI w 0 0) (nI N) x1 x2 x3 x4 x6 x7 (w.1 3)) (nI N) (nI N) ((nrS (g_sI w 0 0) (nI N) x1 x2 x3 x4 x6 x7 (w.1 3)).2 12 x7.toNatClampNeg)) else (fm_newEvent (nrS (g_sI w 0 0) (nI N) x1 x2 x3 x4 x6 x7 (w.1 3))).bind fun v17 => fm_call_199 v17.2 (nI N) (nI N) v17.1 := by
  unfold fm_call_90
  rw [bi_s (fm_thr_0 w)]
  dsimp only
  rw [if_pos rfl, gl_r, show (g_sI w 0 0).1 1 = nI N from hN, ck_nI hN2 (by decide), gl_r, ck_nI hN2 (by decide), gl_r, ck_nI hN2 (by decide), gl_r, ck_nI hN2 (by decide), gl_r, ck_nI hN2 (by decide), gl_r, ck_nI hN2 (by decide), gl_r, ck_nI hN2 (by decide), gl_r, ck_nI hN2 (by decide), gl_r]
  rfl
theorem c90x (x1 x2 x3 x4 x6 x7 : Int32) : fm_call_90 w x1 x2 x3 x4 x6 x7 (0 : Int32) (0 : Int32) (1 : Int32) = some ((0 : Int32), g_sI w 0 3) := by
  unfold fm_call_90
  rw [bi_s (fm_thr_3 w)]
  dsimp only
  rw [if_neg (by decide)]
theorem c199 {N : Nat} (hN2 : N < 120) (x8 y2 : Int32) : fm_call_199 w x8 (nI N) y2 = some (x8, g_sI (g_sA w 12 (nI N) y2) 1 ((w.1 1) + (1 : Int32))) := by
  unfold fm_call_199
  rw [ck_nI hN2 (by decide)]
  rfl
theorem nrS_o (i p1 p2 p3 p4 p6 r h : Int32) (k : Nat) (hk : k < 7 ∨ k = 12 ∨ 16 ≤ k) : (nrS w i p1 p2 p3 p4 p6 r h).2 k = w.2 k := by
  unfold nrS
  rw [eqf_w 15 _ _ k (by omega), eqf_w 13 _ _ k (by omega), eqf_w 14 _ _ k (by omega), eqf_w 11 _ _ k (by omega), eqf_w 10 _ _ k (by omega), eqf_w 9 _ _ k (by omega), eqf_w 8 _ _ k (by omega), eqf_w 7 _ _ k (by omega)]
theorem nrS_c {N : Nat} (hN2 : N < 120) (p1 p2 p3 p4 p6 r h : Int32) (k c : Nat) (hc : c < N) : (nrS w (nI N) p1 p2 p3 p4 p6 r h).2 k c = w.2 k c := by
  have q : ∀ (v : g_S) (k' : Nat) (x : Int32), (g_sA v k' (nI N) x).2 k c = v.2 k c := fun v k' x => by
    rw [rdA, n31 (by omega), if_neg (fun y => by have := y.2; omega)]
  unfold nrS
  rw [q, q, q, q, q, q, q, q]
theorem nrS_r {N : Nat} (hN2 : N < 120) (p1 p2 p3 p4 p6 r h : Int32) : (nrS w (nI N) p1 p2 p3 p4 p6 r h).2 7 N = p1 ∧ (nrS w (nI N) p1 p2 p3 p4 p6 r h).2 8 N = p2 ∧ (nrS w (nI N) p1 p2 p3 p4 p6 r h).2 9 N = p3 ∧ (nrS w (nI N) p1 p2 p3 p4 p6 r h).2 10 N = p4 ∧ (nrS w (nI N) p1 p2 p3 p4 p6 r h).2 11 N = p6 ∧ (nrS w (nI N) p1 p2 p3 p4 p6 r h).2 13 N = r ∧ (nrS w (nI N) p1 p2 p3 p4 p6 r h).2 15 N = h ∧ (nrS w (nI N) p1 p2 p3 p4 p6 r h).2 14 N = 0 := by
  have n0 : (nI N).toNatClampNeg = N := n31 (by omega)
  have q : ∀ (v : g_S) (k' : Nat) (x : Int32), (g_sA v k' (nI N) x).2 k' N = x := fun v k' x => by
    rw [rdA, if_pos ⟨rfl, n0.symm⟩]
  unfold nrS
  refine ⟨?_, ?_, ?_, ?_, ?_, ?_, ?_, ?_⟩
  · rw [eqf_w 15 _ _ 7 (by decide), eqf_w 13 _ _ 7 (by decide), eqf_w 14 _ _ 7 (by decide), eqf_w 11 _ _ 7 (by decide), eqf_w 10 _ _ 7 (by decide), eqf_w 9 _ _ 7 (by decide), eqf_w 8 _ _ 7 (by decide), q]
  · rw [eqf_w 15 _ _ 8 (by decide), eqf_w 13 _ _ 8 (by decide), eqf_w 14 _ _ 8 (by decide), eqf_w 11 _ _ 8 (by decide), eqf_w 10 _ _ 8 (by decide), eqf_w 9 _ _ 8 (by decide), q]
  · rw [eqf_w 15 _ _ 9 (by decide), eqf_w 13 _ _ 9 (by decide), eqf_w 14 _ _ 9 (by decide), eqf_w 11 _ _ 9 (by decide), eqf_w 10 _ _ 9 (by decide), q]
  · rw [eqf_w 15 _ _ 10 (by decide), eqf_w 13 _ _ 10 (by decide), eqf_w 14 _ _ 10 (by decide), eqf_w 11 _ _ 10 (by decide), q]
  · rw [eqf_w 15 _ _ 11 (by decide), eqf_w 13 _ _ 11 (by decide), eqf_w 14 _ _ 11 (by decide), q]
  · rw [eqf_w 15 _ _ 13 (by decide), q]
  · rw [q]
  · rw [eqf_w 15 _ _ 14 (by decide), eqf_w 13 _ _ 14 (by decide), q]
end ADD
