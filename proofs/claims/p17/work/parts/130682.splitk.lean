section SPK
variable {g : Nat → Int32} {u w : g_S}
def spC (u : g_S) (t M N : Nat) : g_S := g_sA (g_sA (mvS (bgS u (u.2 8 t) (nI t)) (nI t) (nI M) N) 14 (nI t) (-1 : Int32)) 15 (nI t) (0 : Int32)
theorem splitc_go (I : IC g u) {t M N : Nat} (ht : t < 120) (hM : u.1 1 = nI M) (hM2 : M < 60) (hN : u.1 0 = nI N) (hN2 : N ≤ 120) : fcJ_split_60 u (nI t) (1 : Int32) = some (0, nI M, spC u t M N) := by
  have Et : ∀ {β : Type} (x : Option β), ck (nI t) 121 x = x := fun x => ck_nI (by omega) (by decide)
  have hb := begin_e I (by rw [hM, nI_toInt (by omega)]; omega) (u.2 8 t) (nI t)
  rw [hM] at hb
  have h14 : (bgS u (u.2 8 t) (nI t)).2 14 = u.2 14 := bgS_o _ _ 14 (by decide)
  have hmv : fcA_moveBranch (bgS u (u.2 8 t) (nI t)) (nI t) (nI M) = some (mvS (bgS u (u.2 8 t) (nI t)) (nI t) (nI M) N) := by
    have h := move_c (u := bgS u (u.2 8 t) (nI t)) (fun j => by rw [h14]; exact IC_r14 I j) (nI t) (nI M) (N := N) hN hN2 N 200 0 (by omega) (by omega)
    rw [mvS_0, nI_0] at h
    unfold fcA_moveBranch
    exact h
  unfold fcJ_split_60
  rw [bi_s nr1, if_pos rfl, Et, n31 (by omega), bi_s hb]
  dsimp only
  rw [bi_s hmv, Et, gl_r, Et, gl_r]
  rfl
def spV (w : g_S) (t M : Nat) : g_S := g_sA (g_sA (g_sA (neS w) 13 (nI t) (-1 : Int32)) 15 (nI t) (0 : Int32)) 12 (nI t) (nI M)
theorem splitm_go (J : IM g w) {t M : Nat} (ht : (t : Int) < (w.1 1).toInt) (hM : w.1 2 = nI M) (hM2 : M < 60) : fm_split_66 w (nI t) (0 : Int32) (0 : Int32) (0 : Int32) = fm_split_113 200 (spV (g_sI w 0 0) t M) (nI M) (w.2 12 t) (1 : Int32) := by
  have z := IM_s J
  have Et : ∀ {β : Type} (x : Option β), ck (nI t) 120 x = x := fun x => ck_nI (by omega) (by decide)
  have hb := newEvent_e (w := g_sI w 0 0) (by show 0 ≤ (w.1 2).toInt; omega) (by show (w.1 2).toInt < 60; rw [hM, nI_toInt (by omega)]; omega)
  rw [show (g_sI w 0 0).1 2 = nI M from hM] at hb
  unfold fm_split_66
  rw [bi_s (fm_thr_0 w)]
  dsimp only
  rw [if_pos rfl, bi_s hb]
  dsimp only
  rw [Et, gl_r, Et, gl_r, Et, gl_r, Et, gl_r, n31 (by omega), eqf_w 15 _ _ 12 (by decide), eqf_w 13 _ _ 12 (by decide), neS_o 12 (by decide)]
  rfl
end SPK
