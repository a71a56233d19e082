def sqr (a b : Int32) : Int64 := (Int32.toInt64 (a / (10000 : Int32) - b / (10000 : Int32))) * (Int32.toInt64 (a / (10000 : Int32) - b / (10000 : Int32))) + (Int32.toInt64 ((a - a / (10000 : Int32) * (10000 : Int32)) - (b - b / (10000 : Int32) * (10000 : Int32)))) * (Int32.toInt64 ((a - a / (10000 : Int32) * (10000 : Int32)) - (b - b / (10000 : Int32) * (10000 : Int32))))
theorem sqc (a b : Int32) : fcJ_squareBetween a b = some (sqr a b) := rfl
theorem sqm (a b : Int32) : fm_squareOf a b = some (sqr a b) := rfl
theorem i64_sub {t s : Int32} (ht : 0 ≤ t.toInt) (hs : 0 ≤ s.toInt) : (t.toInt64 - s.toInt64).toInt = t.toInt - s.toInt := by
  have h1 := oi_hi t
  have h2 := oi_hi s
  rw [Int64.toInt_sub, Int32.toInt_toInt64, Int32.toInt_toInt64]
  exact Int.bmod_eq_of_le_mul_two (by omega) (by omega)
theorem i32_sub {t s : Int32} (ht : 0 ≤ t.toInt) (hs : 0 ≤ s.toInt) : (t - s).toInt = t.toInt - s.toInt := by
  have h1 := oi_hi t
  have h2 := oi_hi s
  exact oi_sub rfl rfl (by omega) (by omega)
theorem lgc_le {a b : Int64} : (lg_cmp a b) ≤ 0 ↔ a.toInt ≤ b.toInt := by
  unfold lg_cmp
  by_cases h : a > b
  · rw [if_pos h]
    have := Int64.lt_iff_toInt_lt.mp h
    exact ⟨fun q => absurd q (by decide), fun _ => by omega⟩
  · rw [if_neg h]
    have h1 : ¬ b.toInt < a.toInt := fun z => h (Int64.lt_iff_toInt_lt.mpr z)
    by_cases e : a = b
    · rw [if_pos e, e]; exact ⟨fun _ => Int.le_refl _, fun _ => by decide⟩
    · rw [if_neg e]
      exact ⟨fun _ => by omega, fun _ => by decide⟩
theorem span_iff {s t v : Int32} (ht : 0 ≤ t.toInt) (hv : 0 ≤ v.toInt) : (lg_cmp (Int32.toInt64 t - Int32.toInt64 v) (Int32.toInt64 s)) ≤ 0 ↔ ¬ s < t - v := by
  rw [lgc_le, i64_sub ht hv, Int32.toInt_toInt64, Int32.lt_iff_toInt_lt, i32_sub ht hv]
  omega
theorem span_iff2 {s t v : Int32} (ht : 0 ≤ t.toInt) (hv : 0 ≤ v.toInt) : 0 < (lg_cmp (Int32.toInt64 t - Int32.toInt64 v) (Int32.toInt64 s)) ↔ s < t - v := by
  have h := span_iff (s := s) ht hv
  constructor
  · intro q
    refine Classical.byContradiction (fun z => ?_)
    have := h.mpr z
    have h1 := Int32.lt_iff_toInt_lt.mp q
    have h2 := Int32.le_iff_toInt_le.mp this
    omega
  · intro q
    have z : ¬ (lg_cmp (Int32.toInt64 t - Int32.toInt64 v) (Int32.toInt64 s)) ≤ 0 := fun y => h.mp y q
    have h2 := mt Int32.le_iff_toInt_le.mpr z
    exact Int32.lt_iff_toInt_lt.mpr (by omega)
def enV (f2 f3 f4 : Nat → Int32) (k : Nat) (a b : Int32) : Int32 := if wS f4 k (a &&& b) * f3 k < f2 k * wS f4 k (a ||| b) then 0 else 1
def agV (f0 f1 f2 f3 f4 : Nat → Int32) (k : Nat) (pc wc tc p x t : Int32) : Int32 :=
  if f1 k < t - tc then 0
  else if pc = -1 ∨ p = -1 then (if wS f4 k (wc ||| x) ≤ 0 then 0 else if enV f2 f3 f4 k wc x = 0 then 0 else 2)
  else if wS f4 k (wc ||| x) ≤ 0 then (if 0 < lg_cmp ((4 : Int64) * sqr pc p) (Int32.toInt64 (f0 k) * Int32.toInt64 (f0 k)) then 0 else 1)
  else if 0 < lg_cmp (sqr pc p) (Int32.toInt64 (f0 k) * Int32.toInt64 (f0 k)) then 0 else if enV f2 f3 f4 k wc x = 0 then 0 else 1
theorem agr_c {u : g_S} {c d k : Nat} (hc : c < 121) (hd : d < 121) (hk : u.2 8 d = nI k) (hk8 : k < 8) : fcJ_agreement u (nI c) (nI d) = some (agV (u.2 0) (u.2 1) (u.2 2) (u.2 3) (u.2 4) k (u.2 9 c) (u.2 10 c) (u.2 12 c) (u.2 9 d) (u.2 10 d) (u.2 12 d)) := by
  have Ec : ∀ {β : Type} (x : Option β), ck (nI c) 121 x = x := fun x => ck_nI hc (by decide)
  have Ed : ∀ {β : Type} (x : Option β), ck (nI d) 121 x = x := fun x => ck_nI hd (by decide)
  have Ek : ∀ {β : Type} (x : Option β), ck (nI k) 8 x = x := fun x => ck_nI hk8 (by decide)
  have n1 : (nI c).toNatClampNeg = c := nI_clamp (by omega)
  have n2 : (nI d).toNatClampNeg = d := nI_clamp (by omega)
  have n3 : (nI k).toNatClampNeg = k := nI_clamp (by omega)
  have hs : fcJ_isWithinSpan u (nI c) (nI d) = if u.2 1 k < u.2 12 d - u.2 12 c then some (0 : Int32) else some (1 : Int32) := by
    unfold fcJ_isWithinSpan
    rw [Ed, Ec, Ed, n1, n2, hk, Ek, n3]
  unfold fcJ_agreement agV
  by_cases h1 : u.2 1 k < u.2 12 d - u.2 12 c
  · rw [bi_s (hs.trans (if_pos h1)), if_neg (fun q => q rfl), if_pos h1]
  · rw [bi_s (hs.trans (if_neg h1)), if_pos (by decide : ¬ (1 : Int32) = 0), if_neg h1, Ed, gl_r, n1, n2, hk, Ec, Ed, bi_s (weigh_e hk8 _), Ec, Ed, bi_s (weigh_e hk8 _)]
    have hm : fcU_meetsNeed u (nI k) (wS (u.2 4) k (u.2 10 c &&& u.2 10 d)) (wS (u.2 4) k (u.2 10 c ||| u.2 10 d)) = some (enV (u.2 2) (u.2 3) (u.2 4) k (u.2 10 c) (u.2 10 d)) := by
      unfold fcU_meetsNeed enV
      rw [Ek, Ek, n3]
      by_cases q : wS (u.2 4) k (u.2 10 c &&& u.2 10 d) * u.2 3 k < u.2 2 k * wS (u.2 4) k (u.2 10 c ||| u.2 10 d)
      · rw [if_pos q, if_pos q]
      · rw [if_neg q, if_neg q]
    have h116 : ∀ x6 y0 : Int32, fcJ_agreement_116 u (nI c) (nI d) (nI k) x6 y0 = if u.2 9 c = -1 ∨ u.2 9 d = -1 then (if y0 = 0 then some (0 : Int32) else some (2 : Int32)) else if x6 = 0 then (if 0 < lg_cmp ((4 : Int64) * sqr (u.2 9 c) (u.2 9 d)) (Int32.toInt64 (u.2 0 k) * Int32.toInt64 (u.2 0 k)) then some (0 : Int32) else some (1 : Int32)) else if y0 = 0 then some (0 : Int32) else if 0 < lg_cmp (sqr (u.2 9 c) (u.2 9 d)) (Int32.toInt64 (u.2 0 k) * Int32.toInt64 (u.2 0 k)) then some (0 : Int32) else some (1 : Int32) := by
      intro x6 y0
      unfold fcJ_agreement_116
      rw [Ec, n1, n2, Ed, Ec, Ed, n3]
      by_cases a1 : u.2 9 c = -1
      · rw [if_pos a1, if_pos (Or.inl a1)]; rfl
      · rw [if_neg a1]
        by_cases a2 : u.2 9 d = -1
        · rw [if_neg (fun q => q a2), if_pos (Or.inr a2)]; rfl
        · rw [if_pos a2, if_neg (fun q => q.elim a1 a2), bi_s (sqc _ _), Ek, Ek, gl_r]
          by_cases b1 : x6 = 0
          · rw [if_pos b1, if_pos b1]
            by_cases b2 : 0 < lg_cmp ((4 : Int64) * sqr (u.2 9 c) (u.2 9 d)) (Int32.toInt64 (u.2 0 k) * Int32.toInt64 (u.2 0 k))
            · rw [if_pos b2, if_pos b2]; rfl
            · rw [if_neg b2, if_neg b2]; rfl
          · rw [if_neg b1, if_neg b1]
            by_cases b2 : y0 = 0
            · rw [if_pos b2, if_pos b2]; rfl
            · rw [if_neg b2, if_neg b2]
              by_cases b3 : 0 < lg_cmp (sqr (u.2 9 c) (u.2 9 d)) (Int32.toInt64 (u.2 0 k) * Int32.toInt64 (u.2 0 k))
              · rw [if_pos b3, if_pos b3]; rfl
              · rw [if_neg b3, if_neg b3]; rfl
    by_cases h2 : wS (u.2 4) k (u.2 10 c ||| u.2 10 d) ≤ 0
    · rw [if_pos h2, if_pos h2, if_pos h2]
      unfold fcJ_agreement_89
      rw [if_pos rfl, h116]
      by_cases a1 : u.2 9 c = -1 ∨ u.2 9 d = -1
      · rw [if_pos a1, if_pos a1, if_pos rfl]
      · rw [if_neg a1, if_neg a1, if_pos rfl]
        by_cases b2 : 0 < lg_cmp ((4 : Int64) * sqr (u.2 9 c) (u.2 9 d)) (Int32.toInt64 (u.2 0 k) * Int32.toInt64 (u.2 0 k))
        · rw [if_pos b2, if_pos b2]
        · rw [if_neg b2, if_neg b2]
    · rw [if_neg h2, if_neg h2, if_neg h2]
      unfold fcJ_agreement_89
      rw [if_neg (by decide), bi_s hm]
      by_cases h3 : enV (u.2 2) (u.2 3) (u.2 4) k (u.2 10 c) (u.2 10 d) = 0
      · rw [if_pos h3, if_pos h3, h116]
        by_cases a1 : u.2 9 c = -1 ∨ u.2 9 d = -1
        · rw [if_pos a1, if_pos a1, if_pos rfl]
        · rw [if_neg a1, if_neg a1, if_neg (by decide), if_pos rfl]
          by_cases b3 : 0 < lg_cmp (sqr (u.2 9 c) (u.2 9 d)) (Int32.toInt64 (u.2 0 k) * Int32.toInt64 (u.2 0 k))
          · rw [if_pos b3]
          · rw [if_neg b3, if_pos h3]
      · rw [if_neg h3, if_neg h3, h116]
        by_cases a1 : u.2 9 c = -1 ∨ u.2 9 d = -1
        · rw [if_pos a1, if_pos a1, if_neg (by decide)]
        · rw [if_neg a1, if_neg a1, if_neg (by decide), if_neg (by decide)]
          by_cases b3 : 0 < lg_cmp (sqr (u.2 9 c) (u.2 9 d)) (Int32.toInt64 (u.2 0 k) * Int32.toInt64 (u.2 0 k))
          · rw [if_pos b3, if_pos b3]
          · rw [if_neg b3, if_neg b3, if_neg h3]
theorem enm {w : g_S} {k : Nat} (hk8 : k < 8) (a b : Int32) : fm_isEnough w a b (nI k) = some (enV (w.2 2) (w.2 3) (w.2 4) k a b) := by
  have Ek : ∀ {β : Type} (x : Option β), ck (nI k) 8 x = x := fun x => ck_nI hk8 (by decide)
  have n3 : (nI k).toNatClampNeg = k := nI_clamp (by omega)
  unfold fm_isEnough enV
  rw [bi_s (sum_e hk8 _), Ek, Ek, n3, bi_s (sum_e hk8 _)]
  by_cases q : wS (w.2 4) k (a &&& b) * w.2 3 k < w.2 2 k * wS (w.2 4) k (a ||| b)
  · rw [if_pos q, if_pos q]
  · rw [if_neg q, if_neg q]
theorem agr_m {w : g_S} {c k : Nat} {p x t : Int32} (hc : c < 120) (hk8 : k < 8) (ht : 0 ≤ t.toInt) (htc : 0 ≤ (w.2 11 c).toInt) (hp : -1 ≤ p.toInt) (hpc : -1 ≤ (w.2 9 c).toInt) : fm_meets w (nI c) (nI k) p x t = some (agV (w.2 0) (w.2 1) (w.2 2) (w.2 3) (w.2 4) k (w.2 9 c) (w.2 10 c) (w.2 11 c) p x t) := by
  have Ec : ∀ {β : Type} (x : Option β), ck (nI c) 120 x = x := fun x => ck_nI hc (by decide)
  have Ek : ∀ {β : Type} (x : Option β), ck (nI k) 8 x = x := fun x => ck_nI hk8 (by decide)
  have n1 : (nI c).toNatClampNeg = c := nI_clamp (by omega)
  have n3 : (nI k).toNatClampNeg = k := nI_clamp (by omega)
  have z0 : (0 : Int32).toInt = 0 := by decide
  have zm : (-1 : Int32).toInt = -1 := by decide
  have neg : ∀ y : Int32, -1 ≤ y.toInt → (y < 0 ↔ y = -1) := fun y hy => by
    rw [Int32.lt_iff_toInt_lt, z0]
    exact ⟨fun q => Int32.toInt_inj.mp (by omega), fun q => by rw [q, zm]; decide⟩
  unfold fm_meets agV
  rw [Ec, Ek, n1, n3]
  by_cases h1 : w.2 1 k < t - w.2 11 c
  · rw [if_neg (fun q => (span_iff ht htc).mp q h1), if_pos h1]
  · rw [if_pos ((span_iff ht htc).mpr h1), if_neg h1, Ec, bi_s (sum_e hk8 _)]
    have h157 : ∀ x6 : Int32, fm_meets_157 w (nI c) (nI k) x x6 = if x6 = 0 then some (0 : Int32) else if enV (w.2 2) (w.2 3) (w.2 4) k (w.2 10 c) x = 0 then some (0 : Int32) else some (2 : Int32) := by
      intro x6
      unfold fm_meets_157
      by_cases a : x6 = 0
      · rw [if_pos a, if_pos a]
      · rw [if_neg a, if_neg a, Ec, n1, bi_s (enm hk8 _ _)]
    have h46 : ∀ y0 : Int32, fm_meets_46 w (nI c) (nI k) p x y0 = if w.2 9 c = -1 ∨ p = -1 then (if y0 = 0 then some (0 : Int32) else if enV (w.2 2) (w.2 3) (w.2 4) k (w.2 10 c) x = 0 then some (0 : Int32) else some (2 : Int32)) else if y0 = 0 then (if 0 < lg_cmp ((4 : Int64) * sqr (w.2 9 c) p) (Int32.toInt64 (w.2 0 k) * Int32.toInt64 (w.2 0 k)) then some (0 : Int32) else some (1 : Int32)) else if 0 < lg_cmp (sqr (w.2 9 c) p) (Int32.toInt64 (w.2 0 k) * Int32.toInt64 (w.2 0 k)) then some (0 : Int32) else if enV (w.2 2) (w.2 3) (w.2 4) k (w.2 10 c) x = 0 then some (0 : Int32) else some (1 : Int32) := by
      intro y0
      unfold fm_meets_46
      rw [Ec, n1]
      by_cases a1 : w.2 9 c = -1
      · rw [if_pos ((neg _ hpc).mpr a1), if_pos (Or.inl a1), h157]
      · rw [if_neg (fun q => a1 ((neg _ hpc).mp q))]
        by_cases a2 : p = -1
        · rw [if_pos ((neg _ hp).mpr a2), if_pos (Or.inr a2), h157]
        · rw [if_neg (fun q => a2 ((neg _ hp).mp q)), if_neg (fun q => q.elim a1 a2), Ec, bi_s (sqm _ _), Ek, Ek, gl_r, n3]
          by_cases b1 : y0 = 0
          · rw [if_pos b1, if_pos b1]
            by_cases b2 : 0 < lg_cmp ((4 : Int64) * sqr (w.2 9 c) p) (Int32.toInt64 (w.2 0 k) * Int32.toInt64 (w.2 0 k))
            · rw [if_pos b2, if_pos b2]; rfl
            · rw [if_neg b2, if_neg b2]; rfl
          · rw [if_neg b1, if_neg b1]
            by_cases b2 : 0 < lg_cmp (sqr (w.2 9 c) p) (Int32.toInt64 (w.2 0 k) * Int32.toInt64 (w.2 0 k))
            · rw [if_pos b2, if_pos b2]; rfl
            · rw [if_neg b2, if_neg b2, Ec, bi_s (enm hk8 _ _)]
              by_cases b3 : enV (w.2 2) (w.2 3) (w.2 4) k (w.2 10 c) x = 0
              · rw [if_pos b3, if_pos b3]; rfl
              · rw [if_neg b3, if_neg b3]; rfl
    by_cases h2 : wS (w.2 4) k (w.2 10 c ||| x) ≤ 0
    · rw [if_pos h2, if_pos h2, if_pos h2, h46]
      by_cases a1 : w.2 9 c = -1 ∨ p = -1
      · rw [if_pos a1, if_pos a1, if_pos rfl]
      · rw [if_neg a1, if_neg a1, if_pos rfl]
        by_cases b2 : 0 < lg_cmp ((4 : Int64) * sqr (w.2 9 c) p) (Int32.toInt64 (w.2 0 k) * Int32.toInt64 (w.2 0 k))
        · rw [if_pos b2, if_pos b2]
        · rw [if_neg b2, if_neg b2]
    · rw [if_neg h2, if_neg h2, if_neg h2, h46]
      by_cases a1 : w.2 9 c = -1 ∨ p = -1
      · rw [if_pos a1, if_pos a1, if_neg (by decide)]
        by_cases b3 : enV (w.2 2) (w.2 3) (w.2 4) k (w.2 10 c) x = 0
        · rw [if_pos b3, if_pos b3]
        · rw [if_neg b3, if_neg b3]
      · rw [if_neg a1, if_neg a1, if_neg (by decide)]
        by_cases b2 : 0 < lg_cmp (sqr (w.2 9 c) p) (Int32.toInt64 (w.2 0 k) * Int32.toInt64 (w.2 0 k))
        · rw [if_pos b2, if_pos b2]
        · rw [if_neg b2, if_neg b2]
          by_cases b3 : enV (w.2 2) (w.2 3) (w.2 4) k (w.2 10 c) x = 0
          · rw [if_pos b3, if_pos b3]
          · rw [if_neg b3, if_neg b3]
