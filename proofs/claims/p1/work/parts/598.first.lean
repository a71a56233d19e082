section FST
variable {g : Nat → Int32} {u : g_S}
theorem lz_line (hz : u.1 0 = 0) (p : Int32) : fcJ_latestOfLine u p = some (-1 : Int32) := by
  show fcJ_latestOfLine_10 u (199 + 1) p ((u.1 0) - (1 : Int32)) = _
  rw [fcJ_latestOfLine_10_s, hz, if_pos (by decide)]
theorem lz_str (hy : u.1 1 = 0) (p : Int32) : fcJ_firstOnStretch u p = some (-1 : Int32) := by
  show fcJ_firstOnStretch_2 u (199 + 1) p (0 : Int32) = _
  rw [fcJ_firstOnStretch_2_s, hy, if_pos (by decide)]
theorem lz_near (hz : u.1 0 = 0) (p : Int32) : fcJ_nearestByPlace u p = some (-1 : Int32) := by
  show fcJ_nearestByPlace_7 u (199 + 1) p (-1 : Int32) (0 : Int64) (0 : Int32) = _
  rw [fcJ_nearestByPlace_7_s, hz, if_pos (by decide)]
theorem lz_gs (hz : u.1 0 = 0) {p : Int32} (hp : vp_in p 121) : fcJ_greatestShare u p = some (-1 : Int32) := by
  unfold fcJ_greatestShare
  rw [ck_in hp]
  show fcJ_greatestShare_21 u (199 + 1) p (u.2 8 p.toNatClampNeg) (-1 : Int32) (0 : Int32) (1 : Int32) (0 : Int32) = _
  rw [fcJ_greatestShare_21_s, hz, if_pos (by decide)]
theorem lz_take (u : g_S) (p h : Int32) : fcJ_takeReason u p (-1 : Int32) h = some ((0 : Int32), u) := by
  unfold fcJ_takeReason
  rw [if_neg (fun q => q rfl)]
theorem lz_seek (hz : u.1 0 = 0) (hy : u.1 1 = 0) {p : Int32} (hp : vp_in p 121) : fcJ_seekReason u p = some u := by
  unfold fcJ_seekReason
  rw [bi_s (lz_line hz p), bi_s (lz_take u p 1)]
  dsimp only
  rw [if_pos rfl, bi_s (lz_str hy p), bi_s (lz_take u p 2)]
  dsimp only
  rw [if_pos rfl, bi_s (lz_near hz p), bi_s (lz_take u p 3)]
  dsimp only
  rw [if_pos rfl, bi_s (lz_gs hz hp), bi_s (lz_take u p 4)]
theorem okz_draft (I : IC g u) (hz : u.1 0 = 0) (hy : u.1 1 = 0) {p1 p2 p3 p4 p5 p6 : Int32} (h1 : 0 ≤ p2.toInt) (h2 : p2.toInt ≤ 7) : okk (fcA_draft u p1 p2 p3 p4 p5 p6) (fun r => r.1 = 0 ∧ IC g r.2 ∧ r.2.1 0 = 0 ∧ r.2.1 1 = 0 ∧ r.2.2 14 0 = (-1 : Int32)) := by
  obtain ⟨r, hr, a1, a2, a3, a4⟩ := okk_fcA_draft I (p1 := p1) (p2 := p2) (p3 := p3) (p4 := p4) (p5 := p5) (p6 := p6) h1 h2
  refine ⟨r, hr, ?_, a1, ?_, ?_, ?_⟩
  · rw [hz] at a2; exact Int32.toInt_inj.mp a2
  · rw [hz] at a3; exact Int32.toInt_inj.mp a3
  · rw [hy] at a4; exact Int32.toInt_inj.mp a4
  · have e : fcA_draft u p1 p2 p3 p4 p5 p6 = some (u.1 0, g_sA (g_sA (g_sA (g_sA (g_sA (g_sA (g_sA (g_sA (g_sA u 7 (u.1 0) p1) 8 (u.1 0) p2) 9 (u.1 0) p3) 10 (u.1 0) p4) 11 (u.1 0) p5) 12 (u.1 0) p6) 14 (u.1 0) (-1 : Int32)) 15 (u.1 0) (0 : Int32)) 16 (u.1 0) (0 : Int32)) := by
      have hv : vp_in (u.1 0) 121 := by rw [hz]; unfold vp_in; decide
      unfold fcA_draft
      rw [ck_in hv]
      show ck (u.1 0) 121 _ = _
      rw [ck_in hv]
      show ck (u.1 0) 121 _ = _
      rw [ck_in hv]
      show ck (u.1 0) 121 _ = _
      rw [ck_in hv]
      show ck (u.1 0) 121 _ = _
      rw [ck_in hv]
      show ck (u.1 0) 121 _ = _
      rw [ck_in hv]
      show ck (u.1 0) 121 _ = _
      rw [ck_in hv]
      show ck (u.1 0) 121 _ = _
      rw [ck_in hv]
      show ck (u.1 0) 121 _ = _
      rw [ck_in hv]
      rfl
    have e2 := Option.some.inj (hr.symm.trans e)
    rw [e2, hz]
    show (g_sA (g_sA (g_sA _ 14 (0 : Int32) (-1 : Int32)) 15 (0 : Int32) (0 : Int32)) 16 (0 : Int32) (0 : Int32)).2 14 0 = _
    rw [eq_w 16 _ _ 14 _ (by decide), eq_w 15 _ _ 14 _ (by decide), rdA, if_pos ⟨rfl, by decide⟩]
theorem okz_fcJ_reasonFor (I : IC g u) (hz : u.1 0 = 0) (hy : u.1 1 = 0) {p1 p2 p3 p4 p5 p6 : Int32} : okk (fcJ_reasonFor u p1 p2 p3 p4 p5 p6) (fun r => (r.1 = 1 ∧ ¬ ((0 ≤ p2.toInt ∧ p2.toInt ≤ 7) ∧ -1 ≤ p5.toInt ∧ p5.toInt ≤ 7)) ∨ (r.1 = 2 ∧ ((0 ≤ p2.toInt ∧ p2.toInt ≤ 7) ∧ -1 ≤ p5.toInt ∧ p5.toInt ≤ 7) ∧ ¬ ((0 ≤ p1.toInt ∧ p1.toInt ≤ 999) ∧ (-1 ≤ p3.toInt ∧ p3.toInt ≤ 99999999) ∧ 0 ≤ p6.toInt)) ∨ ((r.1 = 0 ∧ ((0 ≤ p2.toInt ∧ p2.toInt ≤ 7) ∧ -1 ≤ p5.toInt ∧ p5.toInt ≤ 7) ∧ ((0 ≤ p1.toInt ∧ p1.toInt ≤ 999) ∧ (-1 ≤ p3.toInt ∧ p3.toInt ≤ 99999999) ∧ 0 ≤ p6.toInt)) ∧ r.2.1 = (-1 : Int32))) := by
  unfold fcJ_reasonFor
  refine okk_bi (okz_fcJ_needCallData I (by rw [hz]; decide) (by rw [hy]; decide)) (fun v hv => ?_)
  refine okk_if (fun c => ?_) (fun c => ?_)
  · have hk : (0 ≤ p2.toInt ∧ p2.toInt ≤ 7) := by omega
    refine okk_bi (okz_draft I hz hy hk.1 hk.2) (fun d hd => ?_)
    obtain ⟨d1, d2, d3, d4, d5⟩ := hd
    have hp : vp_in d.1 121 := by rw [d1]; unfold vp_in; decide
    refine okk_bs (lz_seek d3 d4 hp) ?_
    refine okk_ck hp ?_
    refine okk_some (Or.inr (Or.inr ⟨⟨rfl, by omega, by omega⟩, ?_⟩))
    show d.2.2 14 d.1.toNatClampNeg = (-1 : Int32)
    rw [d1]; exact d5
  · refine okk_some ?_
    show (v = 1 ∧ ¬ ((0 ≤ p2.toInt ∧ p2.toInt ≤ 7) ∧ -1 ≤ p5.toInt ∧ p5.toInt ≤ 7)) ∨ (v = 2 ∧ ((0 ≤ p2.toInt ∧ p2.toInt ≤ 7) ∧ -1 ≤ p5.toInt ∧ p5.toInt ≤ 7) ∧ ¬ ((0 ≤ p1.toInt ∧ p1.toInt ≤ 999) ∧ (-1 ≤ p3.toInt ∧ p3.toInt ≤ 99999999) ∧ 0 ≤ p6.toInt)) ∨ ((v = 0 ∧ ((0 ≤ p2.toInt ∧ p2.toInt ≤ 7) ∧ -1 ≤ p5.toInt ∧ p5.toInt ≤ 7) ∧ ((0 ≤ p1.toInt ∧ p1.toInt ≤ 999) ∧ (-1 ≤ p3.toInt ∧ p3.toInt ≤ 99999999) ∧ 0 ≤ p6.toInt)) ∧ (0 : Int32) = (-1 : Int32))
    rcases hv with q | q | q
    · exact Or.inl (by omega)
    · exact Or.inr (Or.inl (by omega))
    · exact absurd q.1 c
theorem okz_fcJ_call (I : IC g u) (hz : u.1 0 = 0) (hy : u.1 1 = 0) {p1 p2 p3 p4 p5 p6 : Int32} : okk (fcJ_call u p1 p2 p3 p4 p5 p6) (fun r => (r.1 = 1 ∧ ¬ ((0 ≤ p2.toInt ∧ p2.toInt ≤ 7) ∧ -1 ≤ p5.toInt ∧ p5.toInt ≤ 7)) ∨ (r.1 = 2 ∧ ((0 ≤ p2.toInt ∧ p2.toInt ≤ 7) ∧ -1 ≤ p5.toInt ∧ p5.toInt ≤ 7) ∧ ¬ ((0 ≤ p1.toInt ∧ p1.toInt ≤ 999) ∧ (-1 ≤ p3.toInt ∧ p3.toInt ≤ 99999999) ∧ 0 ≤ p6.toInt)) ∨ ((r.1 = 0 ∧ ((0 ≤ p2.toInt ∧ p2.toInt ≤ 7) ∧ -1 ≤ p5.toInt ∧ p5.toInt ≤ 7) ∧ ((0 ≤ p1.toInt ∧ p1.toInt ≤ 999) ∧ (-1 ≤ p3.toInt ∧ p3.toInt ≤ 99999999) ∧ 0 ≤ p6.toInt)) ∧ r.2.1 = (0 : Int32))) := by
  unfold fcJ_call
  refine okk_bi (okz_fcJ_needCallData I (by rw [hz]; decide) (by rw [hy]; decide)) (fun v hv => ?_)
  refine okk_if (fun c => ?_) (fun c => ?_)
  · have hk : (0 ≤ p2.toInt ∧ p2.toInt ≤ 7) := by omega
    rw [hz]
    refine okk_f (by decide) ?_
    unfold fcJ_call_28
    refine okk_bs (v := (0 : Nat)) (by decide) ?_
    refine okk_t (by decide) ?_
    refine okk_bi (okz_draft I hz hy hk.1 hk.2) (fun d hd => ?_)
    obtain ⟨d1, d2, d3, d4, d5⟩ := hd
    have hp : vp_in d.1 121 := by rw [d1]; unfold vp_in; decide
    have d5 : d.2.2 14 d.1.toNatClampNeg = (-1 : Int32) := by rw [d1]; exact d5
    refine okk_bs (lz_seek d3 d4 hp) ?_
    refine okk_ck hp ?_
    rw [d5]
    refine okk_gl (fun w ew => ?_)
    rw [ew]
    refine okk_f (fun q => q rfl) ?_
    rw [d4]
    refine okk_f (by decide) ?_
    unfold fcJ_call_90
    refine okk_bs (v := (0 : Nat)) (by decide) ?_
    refine okk_t (by decide) ?_
    refine okk_bi (okk_fcE_begin d2 (by rw [d4]; decide) hk.1 hk.2 (by rw [d1]; decide) (by rw [d1]; decide)) (fun b hb => ?_)
    refine okk_ck hp ?_
    refine okk_gl (fun u1 e1 => ?_)
    unfold fcJ_call_136
    refine okk_gl (fun u2 e2 => ?_)
    exact okk_some (Or.inr (Or.inr ⟨⟨rfl, by omega, by omega⟩, d1⟩))
  · refine okk_some ?_
    show (v = 1 ∧ ¬ ((0 ≤ p2.toInt ∧ p2.toInt ≤ 7) ∧ -1 ≤ p5.toInt ∧ p5.toInt ≤ 7)) ∨ (v = 2 ∧ ((0 ≤ p2.toInt ∧ p2.toInt ≤ 7) ∧ -1 ≤ p5.toInt ∧ p5.toInt ≤ 7) ∧ ¬ ((0 ≤ p1.toInt ∧ p1.toInt ≤ 999) ∧ (-1 ≤ p3.toInt ∧ p3.toInt ≤ 99999999) ∧ 0 ≤ p6.toInt)) ∨ ((v = 0 ∧ ((0 ≤ p2.toInt ∧ p2.toInt ≤ 7) ∧ -1 ≤ p5.toInt ∧ p5.toInt ≤ 7) ∧ ((0 ≤ p1.toInt ∧ p1.toInt ≤ 999) ∧ (-1 ≤ p3.toInt ∧ p3.toInt ≤ 99999999) ∧ 0 ≤ p6.toInt)) ∧ (0 : Int32) = (0 : Int32))
    rcases hv with q | q | q
    · exact Or.inl (by omega)
    · exact Or.inr (Or.inl (by omega))
    · exact absurd q.1 c
theorem lz_co (hy : u.1 1 = 0) : fcE_countOpen u = some (0 : Int32) := by
  show fcE_countOpen_4 u (199 + 1) (0 : Int32) (0 : Int32) = _
  rw [fcE_countOpen_4_s, hy, if_pos (by decide)]
theorem lz_ch (hz : u.1 0 = 0) : fcA_countHoaxes u = some (0 : Int32) := by
  show fcA_countHoaxes_4 u (199 + 1) (0 : Int32) (0 : Int32) = _
  rw [fcA_countHoaxes_4_s, hz, if_pos (by decide)]
theorem okz_fcJ_count (hz : u.1 0 = 0) (hy : u.1 1 = 0) {p1 : Int32} : okk (fcJ_count u p1) (fun r => (r.1 = 1 ∧ ¬ (0 ≤ p1.toInt ∧ p1.toInt ≤ 3)) ∨ ((r.1 = 0 ∧ (0 ≤ p1.toInt ∧ p1.toInt ≤ 3)) ∧ r.2 = (0 : Int32))) := by
  unfold fcJ_count
  have t4 : (4 : Int32).toInt = 4 := by decide
  refine okk_isBelow (fun b => ?_) (fun b => ?_)
  · refine okk_bs (v := (0 : Nat)) (by decide) ?_
    refine okk_t (by decide) ?_
    refine okk_if (fun _ => ?_) (fun _ => ?_)
    · exact okk_some (Or.inr ⟨⟨rfl, by omega⟩, hz⟩)
    · refine okk_if (fun _ => ?_) (fun _ => ?_)
      · exact okk_some (Or.inr ⟨⟨rfl, by omega⟩, hy⟩)
      · refine okk_if (fun _ => ?_) (fun _ => ?_)
        · refine okk_bs (lz_co hy) ?_
          exact okk_some (Or.inr ⟨⟨rfl, by omega⟩, rfl⟩)
        · refine okk_bs (lz_ch hz) ?_
          exact okk_some (Or.inr ⟨⟨rfl, by omega⟩, rfl⟩)
  · refine okk_bs (v := (1 : Nat)) (by decide) ?_
    refine okk_f (by decide) ?_
    exact okk_some (Or.inl ⟨rfl, by omega⟩)
theorem lz_again (hz : u.1 1 = 0) (a b c : Int32) : fm_again u a b c = some (-1 : Int32) := by
  show fm_again_6 u (199 + 1) a b c (-1 : Int32) (0 : Int32) = _
  rw [fm_again_6_s, hz, if_pos (by decide), if_pos (by decide)]
theorem lz_onS (hy : u.1 2 = 0) (a b c : Int32) : fm_onStretch u a b c = some (-1 : Int32) := by
  show fm_onStretch_3 u (199 + 1) a b c (0 : Int32) = _
  rw [fm_onStretch_3_s, hy, if_pos (by decide)]
theorem lz_agr (hz : u.1 1 = 0) (a b c d e : Int32) : fm_agreeing u a b c d e = some (-1 : Int32) := by
  show fm_agreeing_6 u (199 + 1) a b c d e (-1 : Int32) (0 : Int32) = _
  rw [fm_agreeing_6_s, hz, if_pos (by decide)]
theorem lz_rsn (hz : u.1 1 = 0) (hy : u.1 2 = 0) (a b c d e f : Int32) : fm_reason u a b c d e f = some ((-1 : Int32), g_sI (g_sI (g_sI (g_sI (g_sI u 3 1) 3 2) 3 3) 3 4) 3 0) := by
  show ((fm_again (g_sI u 3 1) a b f).bind _) = _
  rw [bi_s (lz_again (u := g_sI u 3 1) hz a b f), if_pos (by decide)]
  show ((fm_onStretch (g_sI (g_sI u 3 1) 3 2) b c e).bind _) = _
  rw [bi_s (lz_onS (u := g_sI (g_sI u 3 1) 3 2) hy b c e), if_pos (by decide)]
  show ((fm_agreeing (g_sI (g_sI (g_sI u 3 1) 3 2) 3 3) 1 b c d f).bind _) = _
  rw [bi_s (lz_agr (u := g_sI (g_sI (g_sI u 3 1) 3 2) 3 3) hz 1 b c d f), if_pos (by decide)]
  show ((fm_agreeing (g_sI (g_sI (g_sI (g_sI u 3 1) 3 2) 3 3) 3 4) 2 b c d f).bind _) = _
  rw [bi_s (lz_agr (u := g_sI (g_sI (g_sI (g_sI u 3 1) 3 2) 3 3) 3 4) hz 2 b c d f), if_pos (by decide)]
  rfl
theorem okz_rf31 (hz : u.1 1 = 0) (hy : u.1 2 = 0) {x1 x2 x3 x4 x5 x6 : Int32} : okk (fm_reasonFor_31 u x1 x2 x3 x4 x5 x6 (0 : Int32) (0 : Int32)) (fun r => (r.2.1 0).toInt = 0 ∧ r.1 = (-1 : Int32)) := by
  unfold fm_reasonFor_31
  refine okk_bs (fm_thr_0 u) ?_
  dsimp only
  refine okk_t (by decide) ?_
  refine okk_bs (lz_rsn (u := g_sI u 0 0) hz hy _ _ _ _ _ _) ?_
  exact okk_some ⟨show (0 : Int32).toInt = 0 by decide, rfl⟩
theorem okz_rfx {x1 x2 x3 x4 x5 x6 y1 y2 : Int32} {k : Int32} {n : Int} (hk : fm_throwing u y1 y2 0 = some ((1 : Int32), g_sI u 0 k)) (hn : k.toInt = n) : okk (fm_reasonFor_31 u x1 x2 x3 x4 x5 x6 y1 y2) (fun r => (r.2.1 0).toInt = n) := by
  unfold fm_reasonFor_31
  refine okk_bs hk ?_
  dsimp only
  refine okk_f (by decide) ?_
  refine okk_some ?_
  show ((g_sI u 0 k).1 0).toInt = n
  rw [rdI, if_pos rfl]; exact hn
theorem okz_fm_reasonFor (I : IM g u) (hz : u.1 1 = 0) (hy : u.1 2 = 0) {p1 p2 p3 p4 p5 p6 : Int32} : okk (fm_reasonFor u p1 p2 p3 p4 p5 p6) (fun r => ((r.2.1 0).toInt = 1 ∧ ¬ ((0 ≤ p2.toInt ∧ p2.toInt ≤ 7) ∧ -1 ≤ p5.toInt ∧ p5.toInt ≤ 7)) ∨ ((r.2.1 0).toInt = 2 ∧ ((0 ≤ p2.toInt ∧ p2.toInt ≤ 7) ∧ -1 ≤ p5.toInt ∧ p5.toInt ≤ 7) ∧ ¬ ((0 ≤ p1.toInt ∧ p1.toInt ≤ 999) ∧ (-1 ≤ p3.toInt ∧ p3.toInt ≤ 99999999) ∧ 0 ≤ p6.toInt)) ∨ (((r.2.1 0).toInt = 0 ∧ ((0 ≤ p2.toInt ∧ p2.toInt ≤ 7) ∧ -1 ≤ p5.toInt ∧ p5.toInt ≤ 7) ∧ ((0 ≤ p1.toInt ∧ p1.toInt ≤ 999) ∧ (-1 ≤ p3.toInt ∧ p3.toInt ≤ 99999999) ∧ 0 ≤ p6.toInt)) ∧ r.1 = (-1 : Int32))) := by
  have z0 : (0 : Int32).toInt = 0 := by decide
  unfold fm_reasonFor
  refine okk_bi okz_fm_isKnown (fun v hv => ?_)
  refine okk_ne (fun c cI => ?_) (fun c cI => ?_)
  · unfold fm_reasonFor_15
    refine okk_bi (okz_fm_isRange I (by rw [hz]; decide)) (fun v2 hv2 => ?_)
    refine okk_ne (fun c2 c2I => ?_) (fun c2 c2I => ?_)
    · refine okk_mono (okz_rf31 hz hy) (fun r hr => ?_)
      exact Or.inr (Or.inr ⟨⟨hr.1, by omega, by omega⟩, hr.2⟩)
    · refine okk_mono (okz_rfx (fm_thr_2 u _) (by decide : (2 : Int32).toInt = 2)) (fun r hr => ?_)
      exact Or.inr (Or.inl ⟨hr, by omega, by omega⟩)
  · unfold fm_reasonFor_15
    refine okk_bi (okz_fm_isRange I (by rw [hz]; decide)) (fun v2 hv2 => ?_)
    refine okk_ne (fun c2 c2I => ?_) (fun c2 c2I => ?_)
    · refine okk_mono (okz_rfx (fm_thr_1 u _ _) (by decide : (1 : Int32).toInt = 1)) (fun r hr => ?_)
      exact Or.inl ⟨hr, by omega⟩
    · refine okk_mono (okz_rfx (fm_thr_1 u _ _) (by decide : (1 : Int32).toInt = 1)) (fun r hr => ?_)
      exact Or.inl ⟨hr, by omega⟩
theorem okz_call90 {x1 x2 x3 x4 x6 : Int32} (hz : u.1 1 = 0) (hy : u.1 2 = 0) : okk (fm_call_90 u x1 x2 x3 x4 x6 (-1 : Int32) (0 : Int32) (0 : Int32) (0 : Int32)) (fun r => (r.2.1 0).toInt = 0 ∧ r.1 = (0 : Int32)) := by
  unfold fm_call_90
  obtain ⟨w, ew⟩ : ∃ y, y = g_sI u 0 (0 : Int32) := ⟨_, rfl⟩
  refine okk_bs (v := ((0 : Int32), w)) (by rw [ew]; exact fm_thr_0 _) ?_
  dsimp only
  have a0 : w.1 0 = 0 := by rw [ew]; rfl
  have a1 : w.1 1 = 0 := by rw [ew]; exact hz
  have a2 : w.1 2 = 0 := by rw [ew]; exact hy
  clear ew
  refine okk_t (by decide) ?_
  refine okk_gl (fun c ec => ?_)
  rw [a1] at ec
  have hv : vp_in c 120 := by rw [ec]; unfold vp_in; decide
  refine okk_ck hv ?_
  refine okk_gl (fun b7 e7 => ?_)
  have s7 : b7.1 = w.1 := by rw [e7]; rfl
  refine okk_ck hv ?_
  refine okk_gl (fun b8 e8 => ?_)
  have s8 : b8.1 = b7.1 := by rw [e8]; rfl
  refine okk_ck hv ?_
  refine okk_gl (fun b9 e9 => ?_)
  have s9 : b9.1 = b8.1 := by rw [e9]; rfl
  refine okk_ck hv ?_
  refine okk_gl (fun b10 e10 => ?_)
  have s10 : b10.1 = b9.1 := by rw [e10]; rfl
  refine okk_ck hv ?_
  refine okk_gl (fun b11 e11 => ?_)
  have s11 : b11.1 = b10.1 := by rw [e11]; rfl
  refine okk_ck hv ?_
  refine okk_gl (fun b14 e14 => ?_)
  have s14 : b14.1 = b11.1 := by rw [e14]; rfl
  refine okk_ck hv ?_
  refine okk_gl (fun b13 e13 => ?_)
  have s13 : b13.1 = b14.1 := by rw [e13]; rfl
  refine okk_ck hv ?_
  refine okk_gl (fun b15 e15 => ?_)
  have s15 : b15.1 = b13.1 := by rw [e15]; rfl
  have sb : b15.1 = w.1 := by rw [s15, s13, s14, s11, s10, s9, s8, s7]
  refine okk_f (by decide) ?_
  have h2 : b15.1 2 = 0 := by rw [sb]; exact a2
  refine okk_bs (fm_new_eq b15 (by rw [h2]; decide) (by rw [h2]; decide)) ?_
  dsimp only
  unfold fm_call_199
  refine okk_ck hv ?_
  refine okk_gl (fun ua ea => ?_)
  refine okk_gl (fun ub eb => ?_)
  refine okk_some ⟨?_, ec⟩
  have q0 : ub.1 0 = w.1 0 := by
    rw [eb, rdI, if_neg (by decide), ea, rdA_i, rdI, if_neg (by decide), rdA_i, rdA_i, sb]
  show (ub.1 0).toInt = 0
  rw [q0, a0]; decide
theorem okz_c45 {x1 x2 x3 x4 x5 x6 : Int32} (hz : u.1 1 = 0) (hy : u.1 2 = 0) : okk (fm_call_45 u x1 x2 x3 x4 x5 x6 (0 : Int32) (0 : Int32) (0 : Int32)) (fun r => (r.2.1 0).toInt = 0 ∧ r.1 = (0 : Int32)) := by
  unfold fm_call_45
  refine okk_bs (fm_thr_0 u) ?_
  dsimp only
  refine okk_t (by decide) ?_
  refine okk_bs (lz_rsn (u := g_sI u 0 0) hz hy _ _ _ _ _ _) ?_
  dsimp only
  refine okk_f (by decide) ?_
  have e2 : (g_sI (g_sI (g_sI (g_sI (g_sI (g_sI u 0 0) 3 1) 3 2) 3 3) 3 4) 3 0).1 2 = 0 := hy
  have e1 : (g_sI (g_sI (g_sI (g_sI (g_sI (g_sI u 0 0) 3 1) 3 2) 3 3) 3 4) 3 0).1 1 = 0 := hz
  generalize g_sI (g_sI (g_sI (g_sI (g_sI (g_sI u 0 0) 3 1) 3 2) 3 3) 3 4) 3 0 = v at e1 e2 ⊢
  rw [e2]
  refine okk_t (by decide) ?_
  exact okz_call90 e1 e2
theorem okz_c45x {x1 x2 x3 x4 x5 x6 y1 y2 y3 : Int32} {k : Int32} {n : Int} (hk : fm_throwing u y1 y2 y3 = some ((1 : Int32), g_sI u 0 k)) (hn : k.toInt = n) : okk (fm_call_45 u x1 x2 x3 x4 x5 x6 y1 y2 y3) (fun r => (r.2.1 0).toInt = n) := by
  unfold fm_call_45
  refine okk_bs hk ?_
  dsimp only
  refine okk_f (by decide) ?_
  refine okk_some ?_
  show ((g_sI u 0 k).1 0).toInt = n
  rw [rdI, if_pos rfl]; exact hn
theorem okz_fm_call (I : IM g u) (hz : u.1 1 = 0) (hy : u.1 2 = 0) {p1 p2 p3 p4 p5 p6 : Int32} : okk (fm_call u p1 p2 p3 p4 p5 p6) (fun r => ((r.2.1 0).toInt = 1 ∧ ¬ ((0 ≤ p2.toInt ∧ p2.toInt ≤ 7) ∧ -1 ≤ p5.toInt ∧ p5.toInt ≤ 7)) ∨ ((r.2.1 0).toInt = 2 ∧ ((0 ≤ p2.toInt ∧ p2.toInt ≤ 7) ∧ -1 ≤ p5.toInt ∧ p5.toInt ≤ 7) ∧ ¬ ((0 ≤ p1.toInt ∧ p1.toInt ≤ 999) ∧ (-1 ≤ p3.toInt ∧ p3.toInt ≤ 99999999) ∧ 0 ≤ p6.toInt)) ∨ (((r.2.1 0).toInt = 0 ∧ ((0 ≤ p2.toInt ∧ p2.toInt ≤ 7) ∧ -1 ≤ p5.toInt ∧ p5.toInt ≤ 7) ∧ ((0 ≤ p1.toInt ∧ p1.toInt ≤ 999) ∧ (-1 ≤ p3.toInt ∧ p3.toInt ≤ 99999999) ∧ 0 ≤ p6.toInt)) ∧ r.1 = (0 : Int32))) := by
  have z0 : (0 : Int32).toInt = 0 := by decide
  have h12 : ¬ u.1 1 = (120 : Int32) := by rw [hz]; decide
  unfold fm_call
  refine okk_bi okz_fm_isKnown (fun v hv => ?_)
  refine okk_ne (fun c cI => ?_) (fun c cI => ?_)
  · unfold fm_call_15
    refine okk_bi (okz_fm_isRange I (by rw [hz]; decide)) (fun v2 hv2 => ?_)
    refine okk_ne (fun c2 c2I => ?_) (fun c2 c2I => ?_)
    · unfold fm_call_31
      refine okk_t h12 ?_
      refine okk_mono (okz_c45 hz hy) (fun r hr => ?_)
      exact Or.inr (Or.inr ⟨⟨hr.1, by omega, by omega⟩, hr.2⟩)
    · unfold fm_call_31
      refine okk_t h12 ?_
      refine okk_mono (okz_c45x (fm_thr_2 u _) (by decide : (2 : Int32).toInt = 2)) (fun r hr => ?_)
      exact Or.inr (Or.inl ⟨hr, by omega, by omega⟩)
  · unfold fm_call_15
    refine okk_bi (okz_fm_isRange I (by rw [hz]; decide)) (fun v2 hv2 => ?_)
    refine okk_ne (fun c2 c2I => ?_) (fun c2 c2I => ?_)
    · unfold fm_call_31
      refine okk_t h12 ?_
      refine okk_mono (okz_c45x (fm_thr_1 u _ _) (by decide : (1 : Int32).toInt = 1)) (fun r hr => ?_)
      exact Or.inl ⟨hr, by omega⟩
    · unfold fm_call_31
      refine okk_t h12 ?_
      refine okk_mono (okz_c45x (fm_thr_1 u _ _) (by decide : (1 : Int32).toInt = 1)) (fun r hr => ?_)
      exact Or.inl ⟨hr, by omega⟩
theorem lz_c88 (hz : u.1 1 = 0) (x a : Int32) : fm_count_88 200 u x a (0 : Int32) = some (a, u) := by
  show fm_count_88 (199 + 1) u x a (0 : Int32) = _
  rw [fm_count_88_s, hz, if_pos (by decide)]
theorem lz_c50 (hz : u.1 1 = 0) (hy : u.1 2 = 0) (x : Int32) : fm_count_50 200 u x (0 : Int32) (0 : Int32) = some ((0 : Int32), u) := by
  show fm_count_50 (199 + 1) u x (0 : Int32) (0 : Int32) = _
  rw [fm_count_50_s, hy, if_pos (by decide)]
  exact lz_c88 hz x 0
theorem okz_fm_count (hz : u.1 1 = 0) (hy : u.1 2 = 0) {p1 : Int32} : okk (fm_count u p1) (fun r => ((r.2.1 0).toInt = 1 ∧ ¬ (0 ≤ p1.toInt ∧ p1.toInt ≤ 3)) ∨ (((r.2.1 0).toInt = 0 ∧ (0 ≤ p1.toInt ∧ p1.toInt ≤ 3)) ∧ r.1 = (0 : Int32))) := by
  have z0 : (0 : Int32).toInt = 0 := by decide
  have z3 : (3 : Int32).toInt = 3 := by decide
  unfold fm_count
  refine okk_in (fun b => ?_) (fun b => ?_)
  · refine okk_t (by decide) ?_
    unfold fm_count_15
    refine okk_bs (fm_thr_0 u) ?_
    dsimp only
    refine okk_t (by decide) ?_
    have a0 : ((g_sI u 0 0).1 0).toInt = 0 := by rw [rdI, if_pos rfl]; decide
    have a1 : (g_sI u 0 0).1 1 = 0 := hz
    have a2 : (g_sI u 0 0).1 2 = 0 := hy
    generalize g_sI u 0 0 = w at a0 a1 a2 ⊢
    refine okk_if (fun _ => ?_) (fun _ => ?_)
    · rw [lz_c50 a1 a2]
      exact okk_some (Or.inr ⟨⟨a0, by omega⟩, rfl⟩)
    · refine okk_if (fun _ => ?_) (fun _ => ?_)
      · exact okk_some (Or.inr ⟨⟨a0, by omega⟩, a2⟩)
      · exact okk_some (Or.inr ⟨⟨a0, by omega⟩, a1⟩)
  · refine okk_f (by decide) ?_
    unfold fm_count_15
    refine okk_bs (fm_thr_1 u _ _) ?_
    dsimp only
    refine okk_f (by decide) ?_
    refine okk_some (Or.inl ⟨?_, by omega⟩)
    show ((g_sI u 0 1).1 0).toInt = 1
    rw [rdI, if_pos rfl]; decide
end FST
