section MGL
variable {g : Nat → Int32} {u w : g_S}
theorem moveAll_e (e t : Int32) {N : Nat} (hN : u.1 0 = nI N) (hN2 : N ≤ 120) : fcA_moveAll u e t = some (pA u 13 (maF (u.2 13) e t N)) := by
  have h := all_c (u := u) e t hN hN2 N 200 0 (by omega) (by omega)
  rw [maF_0, pA_s, nI_0] at h
  unfold fcA_moveAll
  exact h
def mgC (u : g_S) (e c f : Nat) (t : Int32) (N : Nat) : g_S := g_sA (g_sA (pA (g_sA (g_sA u 14 (nI f) (nI c)) 15 (nI f) (5 : Int32)) 13 (maF (u.2 13) (nI e) t N)) 17 (nI e) (3 : Int32)) 19 (nI e) (-1 : Int32)
def mgM (w : g_S) (e c f : Nat) (t : Int32) (N : Nat) : g_S := g_sA (g_sA (pA (g_sA (g_sA w 13 (nI f) (nI c)) 15 (nI f) (5 : Int32)) 12 (maF (w.2 12) (nI e) t N)) 16 (nI e) (3 : Int32)) 17 (nI e) (-1 : Int32)
theorem mergec_go {e c f N : Nat} {t : Int32} (he : e < 60) (hf : f < 120) (hN : u.1 0 = nI N) (hN2 : N ≤ 120) (h19 : u.2 19 e = nI f) : fcJ_merge_80 u (nI e) (nI c) t (1 : Int32) = some (0, nI (mu_ (maF (u.2 13) (nI e) t N) t N), mgC u e c f t N) := by
  have Ee : ∀ {β : Type} (x : Option β), ck (nI e) 60 x = x := fun x => ck_nI he (by decide)
  have Ef : ∀ {β : Type} (x : Option β), ck (nI f) 121 x = x := fun x => ck_nI (by omega) (by decide)
  have u7 : (g_sA (g_sA u 14 (nI f) (nI c)) 15 (nI f) (5 : Int32)).2 13 = u.2 13 := by rw [eqf_w 15 _ _ 13 (by decide), eqf_w 14 _ _ 13 (by decide)]
  have hm := moveAll_e (u := g_sA (g_sA u 14 (nI f) (nI c)) 15 (nI f) (5 : Int32)) (nI e) t (N := N) hN hN2
  rw [u7] at hm
  have h13 : (mgC u e c f t N).2 13 = maF (u.2 13) (nI e) t N := by
    unfold mgC
    rw [eqf_w 19 _ _ 13 (by decide), eqf_w 17 _ _ 13 (by decide), pA_k]
  have hcn : fcA_countIn (mgC u e c f t N) t = some (nI (mu_ (maF (u.2 13) (nI e) t N) t N)) := by
    have := cnt_c (u := mgC u e c f t N) t (N := N) hN hN2 N 200 0 (by omega) (by omega)
    rw [h13] at this
    unfold fcA_countIn
    exact this
  unfold fcJ_merge_80
  rw [bi_s ns1, if_pos rfl, Ee, gl_r, n31 (by omega), h19, Ef, gl_r, Ef, gl_r, bi_s hm, Ee, gl_r, Ee, gl_r]
  exact bi_s hcn
theorem mergem_go {e c f N : Nat} (he : e < 60) (hf : f < 120) (hc : c < 120) (hN : w.1 1 = nI N) (hN2 : N ≤ 120) (hfi : fm_firstOf (g_sI w 0 0) (nI e) = some (nI f)) (hce : ¬ w.2 12 c = nI e) : fm_merge_80 w (nI e) (nI c) (0 : Int32) (0 : Int32) = some (nI (mu_ (maF (w.2 12) (nI e) (w.2 12 c) N) (w.2 12 c) N), mgM (g_sI w 0 0) e c f (w.2 12 c) N) := by
  have Ee : ∀ {β : Type} (x : Option β), ck (nI e) 60 x = x := fun x => ck_nI he (by decide)
  have Ef : ∀ {β : Type} (x : Option β), ck (nI f) 120 x = x := fun x => ck_nI hf (by decide)
  have u7 : (g_sA (g_sA (g_sI w 0 0) 13 (nI f) (nI c)) 15 (nI f) (5 : Int32)).2 12 = w.2 12 := by
    rw [eqf_w 15 _ _ 12 (by decide), eqf_w 13 _ _ 12 (by decide)]; rfl
  obtain ⟨m', hm0, hm⟩ := all_m (w := g_sA (g_sA (g_sI w 0 0) 13 (nI f) (nI c)) 15 (nI f) (5 : Int32)) (nI e) (c := c) (N := N) hc (by rw [u7]; exact hce) hN hN2 N 200 0 (by omega) (by omega)
  rw [maF_0, pA_s, nI_0, u7] at hm
  obtain ⟨m', rfl⟩ : ∃ k, m' = k + 1 := ⟨m' - 1, by omega⟩
  have hcc : maF (w.2 12) (nI e) (w.2 12 c) N c = w.2 12 c := by
    unfold maF
    rw [if_neg (fun y => hce y.2)]
  have h12 : (mgM (g_sI w 0 0) e c f (w.2 12 c) N).2 12 = maF (w.2 12) (nI e) (w.2 12 c) N := by
    unfold mgM
    rw [eqf_w 17 _ _ 12 (by decide), eqf_w 16 _ _ 12 (by decide), pA_k]; rfl
  have hsz : fm_size (mgM (g_sI w 0 0) e c f (w.2 12 c) N) (w.2 12 c) = some (nI (mu_ (maF (w.2 12) (nI e) (w.2 12 c) N) (w.2 12 c) N)) := by
    have := cntm_e (w := mgM (g_sI w 0 0) e c f (w.2 12 c) N) (w.2 12 c) (N := N) hN hN2
    rw [h12] at this
    exact this
  unfold fm_merge_80
  rw [bi_s (fm_thr_0 w)]
  dsimp only
  rw [if_pos rfl, bi_s hfi, Ef, gl_r, Ef, gl_r, hm, fm_merge_115_s, show (pA (g_sA (g_sA (g_sI w 0 0) 13 (nI f) (nI c)) 15 (nI f) (5 : Int32)) 12 (maF (w.2 12) (nI e) (w.2 12 c) N)).1 1 = nI N from hN, if_pos (nI_le (Nat.le_refl _) (by omega)), Ee, gl_r, Ee, gl_r, ck_nI hc (by decide), n31 (by omega)]
  have h12c : (mgM (g_sI w 0 0) e c f (w.2 12 c) N).2 12 c = w.2 12 c := by rw [h12, hcc]
  show ((fm_size (mgM (g_sI w 0 0) e c f (w.2 12 c) N) ((mgM (g_sI w 0 0) e c f (w.2 12 c) N).2 12 c)).bind fun v8 => some (v8, mgM (g_sI w 0 0) e c f (w.2 12 c) N)) = _
  rw [h12c]
  exact bi_s hsz
end MGL
