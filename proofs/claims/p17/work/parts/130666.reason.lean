section RSN
variable {g : Nat → Int32} {u w : g_S}
theorem first_m (R : RA u w) (S : RS u) (I : IC g u) (J : IM g w) {e : Nat} (he : (e : Int) < (u.1 1).toInt) (h3 : ¬ u.2 17 e = 3) : fm_firstOf w (nI e) = some (u.2 19 e) := by
  have z := IC_s I
  have c1 : (nI e).toInt = e := nI_toInt (by omega)
  have c2 : (nI e).toNatClampNeg = e := nI_clamp (by omega)
  obtain ⟨r, hr, b1, b2, b3, b4⟩ := okk_firstO J (e := nI e) (by omega) (by rw [← RA_e R]; omega) (by rw [c2, ← (R.2.2.2.2 e he).1]; exact h3)
  have hc : (r.toNatClampNeg : Int) = r.toInt := cl_I b1
  have hru : (r.toNatClampNeg : Int) < (u.1 0).toInt := by rw [RA_z R]; omega
  obtain ⟨-, -, -, -, -, q13, q14, -⟩ := R.2.2.2.1 _ hru
  have hu := (S.2.2.2 e he h3).2.2.2.2.2 r.toNatClampNeg hru (by rw [q13, b3]; exact c1) (by rw [q14]; exact b4)
  rw [hr, Int32.toInt_inj.mp (show r.toInt = (u.2 19 e).toInt by omega)]
theorem stretch_eq (R : RA u w) (S : RS u) (I : IC g u) (J : IM g w) {d k : Nat} (hd : d < 121) (hk8 : k < 8) (hkd : u.2 8 d = nI k) (hp : -1 ≤ (u.2 9 d).toInt ∧ (u.2 9 d).toInt ≤ 99999999) : ∀ (n i : Nat), i ≤ 60 → fcJ_firstOnStretch_2 u n (nI d) (nI i) = fm_onStretch_3 w n (nI k) (u.2 9 d) (u.2 11 d) (nI i) := by
  have z := IC_s I
  have zm : (-1 : Int32).toInt = -1 := by decide
  have z0 : (0 : Int32).toInt = 0 := by decide
  intro n
  induction n with
  | zero => intro i _; rfl
  | succ n ih =>
    intro i hi
    rw [fcJ_firstOnStretch_2_s, fm_onStretch_3_s, RA_e R]
    by_cases h : w.1 2 ≤ nI i
    · rw [if_pos h, if_pos h]
    · rw [if_neg h, if_neg h]
      have hie : (i : Int) < (u.1 1).toInt := by
        have e := mt Int32.le_iff_toInt_le.mpr h
        rw [nI_toInt (by omega), ← RA_e R] at e
        omega
      have hi60 : i < 60 := by omega
      have hrec : fcJ_firstOnStretch_2 u n (nI d) (nI i + (1 : Int32)) = fm_onStretch_3 w n (nI k) (u.2 9 d) (u.2 11 d) (nI i + (1 : Int32)) := by
        rw [nI_1]; exact ih (i + 1) (by omega)
      obtain ⟨h17, hx⟩ := R.2.2.2.2 i hie
      have ni : (nI i).toNatClampNeg = i := nI_clamp (by omega)
      have Ei : ∀ {β : Type} (x : Option β), ck (nI i) 60 x = x := fun x => ck_nI hi60 (by decide)
      have hwf : fcE_isWatchedFor u (nI i) (nI k) = if ¬ u.2 17 i = 0 then some (0 : Int32) else if ¬ u.2 18 i = nI k then some (0 : Int32) else if u.2 20 i = -1 then some (0 : Int32) else some (1 : Int32) := by
        unfold fcE_isWatchedFor
        rw [Ei, ni, Ei, Ei]
      rw [ck_nI hd (by decide), n31 hd, hkd, Ei, Ei, ni, ← h17]
      by_cases a1 : u.2 17 i = 0
      · have h3 : ¬ u.2 17 i = 3 := by rw [a1]; decide
        obtain ⟨h20, -⟩ := hx h3
        obtain ⟨f1, f2, f3, f4, f5, f6⟩ := S.2.2.2 i hie h3
        have hcf : ((u.2 19 i).toNatClampNeg : Int) = (u.2 19 i).toInt := cl_I f1
        obtain ⟨-, q8, -⟩ := R.2.2.2.1 _ (show ((u.2 19 i).toNatClampNeg : Int) < (u.1 0).toInt by omega)
        have r20 := IC_r20 I i
        rw [if_neg (fun q => q a1)] at hwf
        have a1' : ¬ ¬ u.2 17 i = 0 := fun q => q a1
        by_cases a2 : u.2 20 i = -1
        · have hw0 : fcE_isWatchedFor u (nI i) (nI k) = some (0 : Int32) := by
            rw [hwf]
            by_cases a3 : u.2 18 i = nI k
            · rw [if_neg (fun q => q a3), if_pos a2]
            · rw [if_pos a3]
          rw [bi_s hw0, if_pos rfl, if_neg a1', Ei, ← h20, if_pos (show u.2 20 i < 0 by rw [a2]; decide), if_pos rfl]
          exact hrec
        · have hlt : ¬ u.2 20 i < 0 := fun q => a2 (Int32.toInt_inj.mp (by have := Int32.lt_iff_toInt_lt.mp q; omega))
          by_cases a3 : u.2 18 i = nI k
          · have hw1 : fcE_isWatchedFor u (nI i) (nI k) = some (1 : Int32) := by
              rw [hwf, if_neg (fun q => q a3), if_neg a2]
            have a3' : ¬ ¬ u.2 8 (u.2 19 i).toNatClampNeg = nI k := fun q => q (by rw [← f5]; exact a3)
            obtain ⟨v, hv, -⟩ := okk_fm_isOn J (p1 := nI i) (p2 := u.2 9 d) (p3 := u.2 11 d) (by rw [nI_toInt (by omega)]; omega) (by rw [nI_toInt (by omega)]; omega) (by rw [ni, ← h20]; rcases Int.lt_or_le (u.2 20 i).toInt 0 with q | q; exact absurd (Int32.toInt_inj.mp (by omega)) a2; exact q)
            have hon := (on_eq R S I J hd hie h3 a2 hp).trans hv
            have hfi := first_m R S I J hie h3
            rw [bi_s hw1, if_neg (by decide), if_neg a1', Ei, ← h20, if_neg hlt, bi_s hfi, ck_in (vp_I f1 (by omega)), ← q8, if_neg a3', if_neg (by decide), bi_s hon, bi_s hv]
            by_cases a4 : v = 0
            · rw [if_pos a4, if_pos a4]; exact hrec
            · rw [if_neg a4, if_neg a4, bi_s hfi]
          · have hw0 : fcE_isWatchedFor u (nI i) (nI k) = some (0 : Int32) := by
              rw [hwf, if_pos a3]
            have a3' : ¬ u.2 8 (u.2 19 i).toNatClampNeg = nI k := fun q => a3 (by rw [f5]; exact q)
            rw [bi_s hw0, if_pos rfl, if_neg a1', Ei, ← h20, if_neg hlt, bi_s (first_m R S I J hie h3), ck_in (vp_I f1 (by omega)), ← q8, if_pos a3', if_pos rfl]
            exact hrec
      · have hw0 : fcE_isWatchedFor u (nI i) (nI k) = some (0 : Int32) := by
          rw [hwf, if_pos a1]
        rw [bi_s hw0, if_pos rfl, if_pos a1, if_pos rfl]
        exact hrec
theorem stretch0 (R : RA u w) (S : RS u) (I : IC g u) (J : IM g w) {d k : Nat} (hd : d < 121) (hk8 : k < 8) (hkd : u.2 8 d = nI k) (hp : -1 ≤ (u.2 9 d).toInt ∧ (u.2 9 d).toInt ≤ 99999999) : fcJ_firstOnStretch u (nI d) = fm_onStretch w (nI k) (u.2 9 d) (u.2 11 d) := by
  have h := stretch_eq R S I J hd hk8 hkd hp 200 0 (by omega)
  rw [nI_0] at h
  unfold fcJ_firstOnStretch fm_onStretch
  exact h
theorem near0 (R : RA u w) (S : RS u) (I : IC g u) (J : IM g w) {d k : Nat} (hd : d < 121) (hk8 : k < 8) (hkd : u.2 8 d = nI k) (ht : 0 ≤ (u.2 12 d).toInt) (hp : -1 ≤ (u.2 9 d).toInt) : fcJ_nearestByPlace u (nI d) = fm_agreeing w (1 : Int32) (nI k) (u.2 9 d) (u.2 10 d) (u.2 12 d) := by
  have h := near_eq R S I J hd hk8 hkd ht hp 200 0 (-1) 0 (Or.inl rfl) (by omega)
  rw [nI_0] at h
  unfold fcJ_nearestByPlace fm_agreeing
  exact h
theorem great0 (R : RA u w) (S : RS u) (I : IC g u) (J : IM g w) {d k : Nat} (hd : d < 121) (hk8 : k < 8) (hkd : u.2 8 d = nI k) (ht : 0 ≤ (u.2 12 d).toInt) (hp : -1 ≤ (u.2 9 d).toInt) : fcJ_greatestShare u (nI d) = fm_agreeing w (2 : Int32) (nI k) (u.2 9 d) (u.2 10 d) (u.2 12 d) := by
  have h := great_eq R S I J hd hk8 hkd ht hp 200 0 (-1) 0 1 (Or.inl rfl) (by omega)
  rw [nI_0] at h
  unfold fcJ_greatestShare fm_agreeing
  rw [ck_nI hd (by decide), gl_r, n31 hd, hkd]
  exact h
theorem RA_3 (R : RA u w) (v : Int32) : RA u (g_sI w 3 v) := R
theorem RA_0 (R : RA u w) (v : Int32) : RA u (g_sI w 0 v) := R
theorem enc_m {r : Int32} (h : -1 ≤ r.toInt) : r < 0 ↔ r = -1 := by
  have zm : (-1 : Int32).toInt = -1 := by decide
  rw [Int32.lt_iff_toInt_lt, show (0 : Int32).toInt = 0 by decide]
  exact ⟨fun q => Int32.toInt_inj.mp (by omega), fun q => by rw [q, zm]; decide⟩
def tkS (u : g_S) (d : Nat) (r h : Int32) : g_S := g_sA (g_sA u 14 (nI d) r) 15 (nI d) h
theorem take_1 {d : Nat} (hd : d < 121) {r : Int32} (h : Int32) (hr : ¬ r = -1) : fcJ_takeReason u (nI d) r h = some ((1 : Int32), tkS u d r h) := by
  unfold fcJ_takeReason
  rw [if_pos hr, ck_nI hd (by decide)]
  show (ck (nI d) 121 <| _) = _
  rw [ck_nI hd (by decide)]; rfl
theorem take_0 {p h : Int32} : fcJ_takeReason u p (-1 : Int32) h = some ((0 : Int32), u) := by
  unfold fcJ_takeReason
  rw [if_neg (fun q => q rfl)]
theorem seek_eq (R : RA u w) (S : RS u) (I : IC g u) (J : IM g w) {d k : Nat} (hd : d < 121) (hk8 : k < 8) (hkd : u.2 8 d = nI k) (ht : 0 ≤ (u.2 12 d).toInt) (hp : -1 ≤ (u.2 9 d).toInt ∧ (u.2 9 d).toInt ≤ 99999999) :
    ∃ r h : Int32, ∃ w' : g_S, fm_reason w (u.2 7 d) (nI k) (u.2 9 d) (u.2 10 d) (u.2 11 d) (u.2 12 d) = some (r, w') ∧ w'.2 = w.2 ∧ w'.1 0 = w.1 0 ∧ w'.1 1 = w.1 1 ∧ w'.1 2 = w.1 2 ∧ w'.1 3 = h ∧ IM g w' ∧ -1 ≤ r.toInt ∧ r.toInt < (u.1 0).toInt ∧ (r = -1 → h = 0) ∧ fcJ_seekReason u (nI d) = some (if r = -1 then u else tkS u d r h) := by
  have z := IC_s I
  have kI : (nI k).toInt = k := nI_toInt (by omega)
  have J1 : IM g (g_sI w 3 1) := IM_ix J _ (by decide)
  have J2 : IM g (g_sI (g_sI w 3 1) 3 2) := IM_ix J1 _ (by decide)
  have J3 : IM g (g_sI (g_sI (g_sI w 3 1) 3 2) 3 3) := IM_ix J2 _ (by decide)
  have J4 : IM g (g_sI (g_sI (g_sI (g_sI w 3 1) 3 2) 3 3) 3 4) := IM_ix J3 _ (by decide)
  have R1 : RA u (g_sI w 3 1) := R
  have R2 : RA u (g_sI (g_sI w 3 1) 3 2) := R
  have R3 : RA u (g_sI (g_sI (g_sI w 3 1) 3 2) 3 3) := R
  have R4 : RA u (g_sI (g_sI (g_sI (g_sI w 3 1) 3 2) 3 3) 3 4) := R
  obtain ⟨r1, e1, a1, a1'⟩ := okk_fm_again J1 (p1 := u.2 7 d) (p2 := nI k) (p3 := u.2 12 d) (by omega) (by omega)
  have c1 : fcJ_latestOfLine u (nI d) = some r1 := (again_eq R1 S I J1 hd hk8 hkd ht).trans e1
  have a1' : r1.toInt < (u.1 0).toInt := by rw [RA_z R]; exact a1'
  unfold fcJ_seekReason
  by_cases h1 : r1 = -1
  · obtain ⟨r2, e2, a2, a2'⟩ := okk_fm_onStretch J2 (p1 := nI k) (p2 := u.2 9 d) (p3 := u.2 11 d)
    have c2 : fcJ_firstOnStretch u (nI d) = some r2 := (stretch0 R2 S I J2 hd hk8 hkd hp).trans e2
    have a2' : r2.toInt < (u.1 0).toInt := by rw [RA_z R]; exact a2'
    by_cases h2 : r2 = -1
    · obtain ⟨r3, e3, a3, a3'⟩ := okk_fm_agreeing J3 (p1 := (1 : Int32)) (p2 := nI k) (p3 := u.2 9 d) (p4 := u.2 10 d) (p5 := u.2 12 d) (by omega) (by omega)
      have c3 : fcJ_nearestByPlace u (nI d) = some r3 := (near0 R3 S I J3 hd hk8 hkd ht hp.1).trans e3
      have a3' : r3.toInt < (u.1 0).toInt := by rw [RA_z R]; exact a3'
      by_cases h3 : r3 = -1
      · obtain ⟨r4, e4, a4, a4'⟩ := okk_fm_agreeing J4 (p1 := (2 : Int32)) (p2 := nI k) (p3 := u.2 9 d) (p4 := u.2 10 d) (p5 := u.2 12 d) (by omega) (by omega)
        have c4 : fcJ_greatestShare u (nI d) = some r4 := (great0 R4 S I J4 hd hk8 hkd ht hp.1).trans e4
        have a4' : r4.toInt < (u.1 0).toInt := by rw [RA_z R]; exact a4'
        by_cases h4 : r4 = -1
        · refine ⟨-1, 0, g_sI (g_sI (g_sI (g_sI (g_sI w 3 1) 3 2) 3 3) 3 4) 3 0, ?_, rfl, rfl, rfl, rfl, rfl, IM_ix J4 _ (by decide), by decide, by rw [show (-1 : Int32).toInt = -1 by decide]; omega, fun _ => rfl, ?_⟩
          · unfold fm_reason
            rw [gl_r, bi_s e1, if_pos ((enc_m a1).mpr h1)]
            rw [gl_r, bi_s e2, if_pos ((enc_m a2).mpr h2)]
            rw [gl_r, bi_s e3, if_pos ((enc_m a3).mpr h3)]
            rw [gl_r, bi_s e4, if_pos ((enc_m a4).mpr h4), gl_r, h4]
          · rw [bi_s c1, h1, bi_s take_0]
            dsimp only
            rw [if_pos rfl, bi_s c2, h2, bi_s take_0]
            dsimp only
            rw [if_pos rfl, bi_s c3, h3, bi_s take_0]
            dsimp only
            rw [if_pos rfl, bi_s c4, h4, bi_s take_0, if_pos rfl]
        · refine ⟨r4, 4, g_sI (g_sI (g_sI (g_sI (g_sI w 3 1) 3 2) 3 3) 3 4) 3 4, ?_, rfl, rfl, rfl, rfl, rfl, IM_ix J4 _ (by decide), a4, a4', fun q => absurd q h4, ?_⟩
          · unfold fm_reason
            rw [gl_r, bi_s e1, if_pos ((enc_m a1).mpr h1)]
            rw [gl_r, bi_s e2, if_pos ((enc_m a2).mpr h2)]
            rw [gl_r, bi_s e3, if_pos ((enc_m a3).mpr h3)]
            rw [gl_r, bi_s e4, if_neg (fun q => h4 ((enc_m a4).mp q)), gl_r]
          · rw [bi_s c1, h1, bi_s take_0]
            dsimp only
            rw [if_pos rfl, bi_s c2, h2, bi_s take_0]
            dsimp only
            rw [if_pos rfl, bi_s c3, h3, bi_s take_0]
            dsimp only
            rw [if_pos rfl, bi_s c4, bi_s (take_1 hd 4 h4), if_neg h4]
      · refine ⟨r3, 3, g_sI (g_sI (g_sI w 3 1) 3 2) 3 3, ?_, rfl, rfl, rfl, rfl, rfl, J3, a3, a3', fun q => absurd q h3, ?_⟩
        · unfold fm_reason
          rw [gl_r, bi_s e1, if_pos ((enc_m a1).mpr h1)]
          rw [gl_r, bi_s e2, if_pos ((enc_m a2).mpr h2)]
          rw [gl_r, bi_s e3, if_neg (fun q => h3 ((enc_m a3).mp q))]
        · rw [bi_s c1, h1, bi_s take_0]
          dsimp only
          rw [if_pos rfl, bi_s c2, h2, bi_s take_0]
          dsimp only
          rw [if_pos rfl, bi_s c3, bi_s (take_1 hd 3 h3)]
          dsimp only
          rw [if_neg (by decide), if_neg h3]
    · refine ⟨r2, 2, g_sI (g_sI w 3 1) 3 2, ?_, rfl, rfl, rfl, rfl, rfl, J2, a2, a2', fun q => absurd q h2, ?_⟩
      · unfold fm_reason
        rw [gl_r, bi_s e1, if_pos ((enc_m a1).mpr h1)]
        rw [gl_r, bi_s e2, if_neg (fun q => h2 ((enc_m a2).mp q))]
      · rw [bi_s c1, h1, bi_s take_0]
        dsimp only
        rw [if_pos rfl, bi_s c2, bi_s (take_1 hd 2 h2)]
        dsimp only
        rw [if_neg (by decide), if_neg h2]
  · refine ⟨r1, 1, g_sI w 3 1, ?_, rfl, rfl, rfl, rfl, rfl, J1, a1, a1', fun q => absurd q h1, ?_⟩
    · unfold fm_reason
      rw [gl_r, bi_s e1, if_neg (fun q => h1 ((enc_m a1).mp q))]
    · rw [bi_s c1, bi_s (take_1 hd 1 h1)]
      dsimp only
      rw [if_neg (by decide), if_neg h1]
end RSN
