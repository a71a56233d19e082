def alw (o : Option (Int32 × g_S)) (s : g_S) : Prop := ∀ r, o = some r → r.2 = s
theorem alw_s (v : Int32) (s : g_S) : alw (some (v, s)) s := fun r h => by cases h; rfl
theorem alw_b {α : Type} {o : Option α} {k : α → Option (Int32 × g_S)} {s : g_S} (h : ∀ v, alw (k v) s) : alw (o.bind k) s := fun r hr => by
  cases o with
  | none => cases hr
  | some v => exact h v r hr
theorem alw_c {i : Int32} {n : Nat} {x : Option (Int32 × g_S)} {s : g_S} (h : alw x s) : alw (ck i n x) s := fun r hr => by
  unfold ck at hr
  by_cases q : i < 0 ∨ n ≤ i.toNatClampNeg
  · rw [if_pos q] at hr; cases hr
  · rw [if_neg q] at hr; exact h r hr
theorem alw_i {c : Prop} [Decidable c] {x y : Option (Int32 × g_S)} {s : g_S} (h1 : alw x s) (h2 : alw y s) : alw (if c then x else y) s := fun r hr => by
  by_cases q : c
  · rw [if_pos q] at hr; exact h1 r hr
  · rw [if_neg q] at hr; exact h2 r hr
theorem ev24_0 (w : g_S) (x1 x2 : Int32) : alw (fm_eventAt_24 w x1 x2 (0 : Int32)) (g_sI w 0 0) := by
  unfold fm_eventAt_24
  rw [bi_s (fm_thr_0 w)]
  dsimp only
  rw [if_pos rfl]
  refine alw_b (fun v3 => ?_)
  refine alw_i (alw_c (alw_s _ _)) (alw_i (alw_b (fun v => alw_s _ _)) (alw_i (alw_i (alw_c (alw_s _ _)) (alw_s _ _)) (alw_i (alw_b (fun v => alw_s _ _)) (alw_i (alw_b (fun v => alw_s _ _)) (alw_i (alw_s _ _) (alw_b (fun v => alw_s _ _)))))))
theorem ev24_1 (w : g_S) (x1 x2 : Int32) : alw (fm_eventAt_24 w x1 x2 (1 : Int32)) (g_sI w 0 1) := by
  unfold fm_eventAt_24
  rw [bi_s (fm_thr_1 w 0 0)]
  dsimp only
  rw [if_neg (by decide)]
  exact alw_s _ _
theorem lk_eventAt {g : Nat → Int32} {u w : g_S} (R : RA u w) (S : RS u) (I : IC g u) (J : IM g w) (p1 p2 : Int32) : ∃ rv rz, fcJ_eventAt u p1 p2 = some rv ∧ fm_eventAt w p1 p2 = some rz ∧ RA u rz.2 := by
  obtain ⟨rv, h1, -⟩ := okk_fcJ_eventAt I (p1 := p1) (p2 := p2)
  obtain ⟨rz, h2, -⟩ := okk_fm_eventAt J (p1 := p1) (p2 := p2)
  refine ⟨rv, rz, h1, h2, ?_⟩
  have k : rz.2 = g_sI w 0 0 ∨ rz.2 = g_sI w 0 1 := by
    unfold fm_eventAt at h2
    by_cases a : 0 ≤ p1.toInt ∧ p1.toInt < (w.1 2).toInt
    · rw [bi_s (ise1 J a), if_neg (by decide)] at h2
      by_cases b : (0 : Int32).toInt ≤ p2.toInt ∧ p2.toInt ≤ (6 : Int32).toInt
      · rw [bi_s (fm_in_1 b), if_pos (by decide)] at h2
        exact Or.inl (ev24_0 w p1 p2 rz h2)
      · rw [bi_s (fm_in_0 b), if_neg (fun q => q rfl)] at h2
        exact Or.inr (ev24_1 w p1 p2 rz h2)
    · rw [bi_s (ise0 J a), if_pos rfl] at h2
      exact Or.inr (ev24_1 w p1 p2 rz h2)
  rcases k with k | k
  · rw [k]; exact RA_0 R 0
  · rw [k]; exact RA_0 R 1
