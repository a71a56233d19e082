def latV (u : g_S) : Int32 := if u.1 0 = 0 then 0 else u.2 12 ((u.1 0) - (1 : Int32)).toNatClampNeg
def latM (w : g_S) : Int32 := if w.1 1 = 0 then 0 else w.2 11 ((w.1 1) - (1 : Int32)).toNatClampNeg
section CLL
variable {g : Nat → Int32} {u w : g_S}
theorem lat_c (I : IC g u) : fcA_latestTime u = some (latV u) := by
  have z := IC_s I
  have z0 : (0 : Int32).toInt = 0 := by decide
  unfold fcA_latestTime latV
  by_cases h : u.1 0 = 0
  · rw [if_neg (fun q => q h), if_pos h]
  · have h' : ¬ (u.1 0).toInt = 0 := fun q => h (Int32.toInt_inj.mp (by omega))
    have t : ((u.1 0) - (1 : Int32)).toInt = (u.1 0).toInt - 1 := oi_sub rfl (by decide) (by omega) (by omega)
    rw [if_pos h, if_neg h, ck_in (vp_I (by omega) (by omega))]
theorem okl_fcA_latestTime (I : IC g u) : okk (fcA_latestTime u) (fun r => (r.toInt = (latV u).toInt)) := ⟨_, lat_c I, rfl⟩
theorem lat_eq (R : RA u w) (I : IC g u) : latV u = latM w := by
  have z := IC_s I
  unfold latV latM
  rw [← RA_z R]
  by_cases h : u.1 0 = 0
  · rw [if_pos h, if_pos h]
  · have h' : ¬ (u.1 0).toInt = 0 := fun q => h (Int32.toInt_inj.mp (by rw [show (0 : Int32).toInt = 0 by decide]; omega))
    have t : ((u.1 0) - (1 : Int32)).toInt = (u.1 0).toInt - 1 := oi_sub rfl (by decide) (by omega) (by omega)
    have c : ((((u.1 0) - (1 : Int32)).toNatClampNeg : Nat) : Int) = ((u.1 0) - (1 : Int32)).toInt := cl_I (by omega)
    rw [if_neg h, if_neg h]
    exact (R.2.2.2.1 _ (by omega)).2.2.2.2.1
theorem lat_0 (S : RS u) (I : IC g u) : 0 ≤ (latV u).toInt := by
  have z := IC_s I
  unfold latV
  by_cases h : u.1 0 = 0
  · rw [if_pos h]; decide
  · have h' : ¬ (u.1 0).toInt = 0 := fun q => h (Int32.toInt_inj.mp (by rw [show (0 : Int32).toInt = 0 by decide]; omega))
    have t : ((u.1 0) - (1 : Int32)).toInt = (u.1 0).toInt - 1 := oi_sub rfl (by decide) (by omega) (by omega)
    have c : ((((u.1 0) - (1 : Int32)).toNatClampNeg : Nat) : Int) = ((u.1 0) - (1 : Int32)).toInt := cl_I (by omega)
    rw [if_neg h]
    exact (S.2.1 _ (by omega)).1
theorem okl_fm_isRange (J : IM g w) {p1 p2 p3 : Int32} : okk (fm_isRange w p1 p2 p3) (fun r => (r.toInt = 1 ∧ (0 ≤ p1.toInt ∧ p1.toInt ≤ 999) ∧ (-1 ≤ p2.toInt ∧ p2.toInt ≤ 99999999) ∧ (latM w).toInt ≤ p3.toInt) ∨ (r.toInt = 0 ∧ ¬ ((0 ≤ p1.toInt ∧ p1.toInt ≤ 999) ∧ (-1 ≤ p2.toInt ∧ p2.toInt ≤ 99999999) ∧ (latM w).toInt ≤ p3.toInt))) := by
  have z := IM_s J
  have z0 : (0 : Int32).toInt = 0 := by decide
  have z1 : (1 : Int32).toInt = 1 := by decide
  have zm : (-1 : Int32).toInt = -1 := by decide
  have z9 : (999 : Int32).toInt = 999 := by decide
  have zp : (99999999 : Int32).toInt = 99999999 := by decide
  unfold fm_isRange
  refine okk_in (fun b => ?_) (fun b => ?_)
  · refine okk_f (by decide) ?_
    refine okk_in (fun b2 => ?_) (fun b2 => ?_)
    · refine okk_f (by decide) ?_
      refine okk_ne (fun c cI => ?_) (fun c cI => ?_)
      · have t : ((w.1 1) - (1 : Int32)).toInt = (w.1 1).toInt - 1 := oi_sub rfl (by decide) (by omega) (by omega)
        have l : latM w = w.2 11 ((w.1 1) - (1 : Int32)).toNatClampNeg := by unfold latM; rw [if_neg c]
        refine okk_ck (vp_I (by omega) (by omega)) ?_
        rw [l]
        refine okk_lt (fun d dI => ?_) (fun d dI => ?_)
        · exact okk_some (Or.inr ⟨z0, by omega⟩)
        · exact okk_some (Or.inl ⟨z1, by omega, by omega, by omega⟩)
      · have l : latM w = 0 := by unfold latM; rw [if_pos c]
        rw [l]
        refine okk_lt (fun d dI => ?_) (fun d dI => ?_)
        · exact okk_some (Or.inr ⟨z0, by omega⟩)
        · exact okk_some (Or.inl ⟨z1, by omega, by omega, by omega⟩)
    · refine okk_t (by decide) ?_
      exact okk_some (Or.inr ⟨z0, by omega⟩)
  · refine okk_t (by decide) ?_
    exact okk_some (Or.inr ⟨z0, by omega⟩)
def dS (u : g_S) (i p1 p2 p3 p4 p5 p6 : Int32) : g_S := g_sA (g_sA (g_sA (g_sA (g_sA (g_sA (g_sA (g_sA (g_sA u 7 i p1) 8 i p2) 9 i p3) 10 i p4) 11 i p5) 12 i p6) 14 i (-1 : Int32)) 15 i (0 : Int32)) 16 i (0 : Int32)
theorem draft_e (I : IC g u) (p1 p2 p3 p4 p5 p6 : Int32) : fcA_draft u p1 p2 p3 p4 p5 p6 = some (u.1 0, dS u (u.1 0) p1 p2 p3 p4 p5 p6) := by
  have z := IC_s I
  have hv : vp_in (u.1 0) 121 := vp_I (by omega) (by omega)
  unfold fcA_draft
  rw [ck_in hv]
  show ck (u.1 0) 121 _ = _
  rw [ck_in hv]
  show ck (u.1 0) 121 _ = _
  rw [ck_in hv]
  show ck (u.1 0) 121 _ = _
  rw [ck_in hv]
  show ck (u.1 0) 121 _ = _
  rw [ck_in hv]
  show ck (u.1 0) 121 _ = _
  rw [ck_in hv]
  show ck (u.1 0) 121 _ = _
  rw [ck_in hv]
  show ck (u.1 0) 121 _ = _
  rw [ck_in hv]
  show ck (u.1 0) 121 _ = _
  rw [ck_in hv]
  rfl
def SB (u u' : g_S) : Prop := u'.1 = u.1 ∧ (∀ k, (k < 7 ∨ 17 ≤ k) → u'.2 k = u.2 k) ∧ ∀ k c : Nat, (c : Int) < (u.1 0).toInt → u'.2 k c = u.2 k c
theorem SB_rf : SB u u := ⟨rfl, fun _ _ => rfl, fun _ _ _ => rfl⟩
theorem SB_w {u' : g_S} (h : SB u u') (k : Nat) (hk : 7 ≤ k ∧ k < 17) (i v : Int32) (hi : (u.1 0).toInt ≤ (i.toNatClampNeg : Int)) : SB u (g_sA u' k i v) := by
  obtain ⟨h1, h2, h3⟩ := h
  refine ⟨h1, fun k' hk' => ?_, fun k' c hc => ?_⟩
  · rw [eqf_w k i v k' (by omega)]; exact h2 k' hk'
  · rw [rdA, if_neg (fun y => by have := y.2; omega)]; exact h3 k' c hc
theorem RA_sb {u' : g_S} (h : SB u u') (R : RA u w) : RA u' w := by
  obtain ⟨h1, h2, h3⟩ := h
  obtain ⟨r1, r2, r3, r4, r5⟩ := R
  refine ⟨by rw [h1]; exact r1, by rw [h1]; exact r2, fun k hk => by rw [h2 k (Or.inl hk)]; exact r3 k hk, fun c hc => ?_, fun e he => ?_⟩
  · rw [h1] at hc
    rw [h3 7 c hc, h3 8 c hc, h3 9 c hc, h3 10 c hc, h3 12 c hc, h3 13 c hc, h3 14 c hc, h3 15 c hc, h3 16 c hc]
    exact r4 c hc
  · rw [h1] at he
    rw [h2 17 (by omega), h2 20 (by omega), h2 21 (by omega), h2 22 (by omega)]
    exact r5 e he
theorem RS_sb {u' : g_S} (h : SB u u') (S : RS u) : RS u' := by
  obtain ⟨h1, h2, h3⟩ := h
  obtain ⟨s1, s2, s3, s4⟩ := S
  refine ⟨by rw [h2 6 (by omega)]; exact s1, fun c hc => ?_, fun c hc hr => ?_, fun e he h => ?_⟩
  · rw [h1] at hc ⊢
    rw [h3 12 c hc, h3 9 c hc, h3 13 c hc, h3 14 c hc]
    exact s2 c hc
  · rw [h1] at hc
    rw [h3 14 c hc] at hr ⊢
    have hc2 : ((u.2 14 c).toNatClampNeg : Int) = (u.2 14 c).toInt := cl_I hr
    have := (s2 c hc).2.2.2.2
    rw [h3 13 _ (by omega), h3 13 c hc]
    exact s3 c hc hr
  · rw [h1] at he
    rw [h2 17 (by omega)] at h
    obtain ⟨a1, a2, a3, a4, a5, a6⟩ := s4 e he h
    have hc2 : ((u.2 19 e).toNatClampNeg : Int) = (u.2 19 e).toInt := cl_I a1
    rw [h2 19 (by omega), h2 18 (by omega), h1, h3 13 _ (by omega), h3 14 _ (by omega), h3 8 _ (by omega)]
    refine ⟨a1, a2, a3, a4, a5, fun c hc => ?_⟩
    rw [h3 13 c hc, h3 14 c hc]
    exact a6 c hc
theorem SB_d (I : IC g u) (p1 p2 p3 p4 p5 p6 : Int32) : SB u (dS u (u.1 0) p1 p2 p3 p4 p5 p6) := by
  have z := IC_s I
  have hc : ((u.1 0).toNatClampNeg : Int) = (u.1 0).toInt := cl_I (by omega)
  unfold dS
  exact SB_w (SB_w (SB_w (SB_w (SB_w (SB_w (SB_w (SB_w (SB_w SB_rf 7 (by decide) _ _ (by omega)) 8 (by decide) _ _ (by omega)) 9 (by decide) _ _ (by omega)) 10 (by decide) _ _ (by omega)) 11 (by decide) _ _ (by omega)) 12 (by decide) _ _ (by omega)) 14 (by decide) _ _ (by omega)) 15 (by decide) _ _ (by omega)) 16 (by decide) _ _ (by omega)
theorem dS_r (u : g_S) (i p1 p2 p3 p4 p5 p6 : Int32) : (dS u i p1 p2 p3 p4 p5 p6).2 7 i.toNatClampNeg = p1 ∧ (dS u i p1 p2 p3 p4 p5 p6).2 8 i.toNatClampNeg = p2 ∧ (dS u i p1 p2 p3 p4 p5 p6).2 9 i.toNatClampNeg = p3 ∧ (dS u i p1 p2 p3 p4 p5 p6).2 10 i.toNatClampNeg = p4 ∧ (dS u i p1 p2 p3 p4 p5 p6).2 11 i.toNatClampNeg = p5 ∧ (dS u i p1 p2 p3 p4 p5 p6).2 12 i.toNatClampNeg = p6 ∧ (dS u i p1 p2 p3 p4 p5 p6).2 14 i.toNatClampNeg = -1 ∧ (dS u i p1 p2 p3 p4 p5 p6).2 15 i.toNatClampNeg = 0 ∧ (dS u i p1 p2 p3 p4 p5 p6).2 16 i.toNatClampNeg = 0 := by
  unfold dS
  refine ⟨?_, ?_, ?_, ?_, ?_, ?_, ?_, ?_, ?_⟩
  · rw [eq_w 16 _ _ 7 _ (by decide), eq_w 15 _ _ 7 _ (by decide), eq_w 14 _ _ 7 _ (by decide), eq_w 12 _ _ 7 _ (by decide), eq_w 11 _ _ 7 _ (by decide), eq_w 10 _ _ 7 _ (by decide), eq_w 9 _ _ 7 _ (by decide), eq_w 8 _ _ 7 _ (by decide), rdA, if_pos ⟨rfl, rfl⟩]
  · rw [eq_w 16 _ _ 8 _ (by decide), eq_w 15 _ _ 8 _ (by decide), eq_w 14 _ _ 8 _ (by decide), eq_w 12 _ _ 8 _ (by decide), eq_w 11 _ _ 8 _ (by decide), eq_w 10 _ _ 8 _ (by decide), eq_w 9 _ _ 8 _ (by decide), rdA, if_pos ⟨rfl, rfl⟩]
  · rw [eq_w 16 _ _ 9 _ (by decide), eq_w 15 _ _ 9 _ (by decide), eq_w 14 _ _ 9 _ (by decide), eq_w 12 _ _ 9 _ (by decide), eq_w 11 _ _ 9 _ (by decide), eq_w 10 _ _ 9 _ (by decide), rdA, if_pos ⟨rfl, rfl⟩]
  · rw [eq_w 16 _ _ 10 _ (by decide), eq_w 15 _ _ 10 _ (by decide), eq_w 14 _ _ 10 _ (by decide), eq_w 12 _ _ 10 _ (by decide), eq_w 11 _ _ 10 _ (by decide), rdA, if_pos ⟨rfl, rfl⟩]
  · rw [eq_w 16 _ _ 11 _ (by decide), eq_w 15 _ _ 11 _ (by decide), eq_w 14 _ _ 11 _ (by decide), eq_w 12 _ _ 11 _ (by decide), rdA, if_pos ⟨rfl, rfl⟩]
  · rw [eq_w 16 _ _ 12 _ (by decide), eq_w 15 _ _ 12 _ (by decide), eq_w 14 _ _ 12 _ (by decide), rdA, if_pos ⟨rfl, rfl⟩]
  · rw [eq_w 16 _ _ 14 _ (by decide), eq_w 15 _ _ 14 _ (by decide), rdA, if_pos ⟨rfl, rfl⟩]
  · rw [eq_w 16 _ _ 15 _ (by decide), rdA, if_pos ⟨rfl, rfl⟩]
  · rw [rdA, if_pos ⟨rfl, rfl⟩]
end CLL
