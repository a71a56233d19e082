theorem cn_o {h o : Int32} (e : o = 0) : cnV h o = 0 := by
  unfold cnV
  by_cases a : h = 0
  · rw [if_neg (fun z => z a), if_pos e]
  · rw [if_pos a]
theorem cn_h {h o : Int32} (e : ¬ h = 0) : cnV h o = 0 := by
  unfold cnV
  rw [if_pos e]
theorem cn_1 {h o : Int32} (e : h = 0) (e2 : ¬ o = 0) : cnV h o = 1 := by
  unfold cnV
  rw [if_neg (fun z => z e), if_neg e2]
theorem cn01 (h o : Int32) : (if cnV h o = 0 then some (0 : Int32) else some (1 : Int32)) = some (cnV h o) := by
  by_cases a : h = 0
  · by_cases b : o = 0
    · rw [cn_o b, if_pos rfl]
    · rw [cn_1 a b, if_neg (by decide)]
  · rw [cn_h a, if_pos rfl]
theorem ag1 {f0 f1 f2 f3 f4 : Nat → Int32} {k : Nat} {pc wc tc p x t : Int32} (h : agV f0 f1 f2 f3 f4 k pc wc tc p x t = 1) : ¬ pc = -1 ∧ ¬ p = -1 := by
  unfold agV at h
  by_cases a : f1 k < t - tc
  · rw [if_pos a] at h; exact absurd h (by decide)
  · rw [if_neg a] at h
    by_cases b : pc = -1 ∨ p = -1
    · rw [if_pos b] at h
      by_cases c : wS f4 k (wc ||| x) ≤ 0
      · rw [if_pos c] at h; exact absurd h (by decide)
      · rw [if_neg c] at h
        by_cases e : enV f2 f3 f4 k wc x = 0
        · rw [if_pos e] at h; exact absurd h (by decide)
        · rw [if_neg e] at h; exact absurd h (by decide)
    · exact ⟨fun q => b (Or.inl q), fun q => b (Or.inr q)⟩
section SRC
variable {g : Nat → Int32} {u w : g_S}
theorem cd_c (I : IC g u) {c d k : Nat} (h : c < 121) (hd : d < 121) (hkd : u.2 8 d = nI k) : fcJ_isCandidate u (nI c) (nI d) = if u.2 8 c = nI k then some (cnV (hxV (u.2 16 c)) (opV (u.2 17 (u.2 13 c).toNatClampNeg))) else some (0 : Int32) := by
  unfold fcJ_isCandidate
  rw [ck_nI h (by decide), ck_nI hd (by decide), n31 h, n31 hd, hkd]
  by_cases q : u.2 8 c = nI k
  · rw [if_neg (fun z => z q), if_pos q, bi_s (cn_c I h), cn01]
  · rw [if_pos q, if_neg q]
theorem ilt (I : IC g u) (R : RA u w) {i : Nat} (hi : i ≤ 120) (h : ¬ w.1 1 ≤ nI i) : (i : Int) < (u.1 0).toInt ∧ i < 120 := by
  have z := IC_s I
  have e := mt Int32.le_iff_toInt_le.mpr h
  rw [nI_toInt (by omega), ← RA_z R] at e
  omega
theorem near_eq (R : RA u w) (S : RS u) (I : IC g u) (J : IM g w) {d k : Nat} (hd : d < 121) (hk8 : k < 8) (hkd : u.2 8 d = nI k) (ht : 0 ≤ (u.2 12 d).toInt) (hp : -1 ≤ (u.2 9 d).toInt) : ∀ (n i : Nat) (f : Int32) (ls : Int64), (f = -1 ∨ ∃ b : Nat, b < i ∧ (b : Int) < (u.1 0).toInt ∧ f = nI b ∧ ls = sqr (u.2 9 b) (u.2 9 d) ∧ ¬ u.2 9 b = -1) → i ≤ 120 → fcJ_nearestByPlace_7 u n (nI d) f ls (nI i) = fm_agreeing_6 w n (1 : Int32) (nI k) (u.2 9 d) (u.2 10 d) (u.2 12 d) f (nI i) := by
  intro n
  induction n with
  | zero => intro i f ls _ _; rfl
  | succ n ih =>
    intro i f ls hf hi
    have z := IC_s I
    rw [fcJ_nearestByPlace_7_s, fm_agreeing_6_s, RA_z R]
    by_cases h : w.1 1 ≤ nI i
    · rw [if_pos h, if_pos h]
    · rw [if_neg h, if_neg h]
      obtain ⟨hic, hi20⟩ := ilt I R hi h
      obtain ⟨q7, q8, q9, q10, q12, q13, q14, q15, q16⟩ := R.2.2.2.1 i hic
      obtain ⟨s12, s9, s9', s13, s14⟩ := S.2.1 i hic
      have hev := ev_eq R S I hic
      have hrec : ∀ (f : Int32) (ls : Int64), (f = -1 ∨ ∃ b : Nat, b < i + 1 ∧ (b : Int) < (u.1 0).toInt ∧ f = nI b ∧ ls = sqr (u.2 9 b) (u.2 9 d) ∧ ¬ u.2 9 b = -1) → fcJ_nearestByPlace_7 u n (nI d) f ls (nI i + (1 : Int32)) = fm_agreeing_6 w n (1 : Int32) (nI k) (u.2 9 d) (u.2 10 d) (u.2 12 d) f (nI i + (1 : Int32)) := fun f ls hf => by
        rw [nI_1]; exact ih (i + 1) f ls hf (by omega)
      have hf' : (f = -1 ∨ ∃ b : Nat, b < i + 1 ∧ (b : Int) < (u.1 0).toInt ∧ f = nI b ∧ ls = sqr (u.2 9 b) (u.2 9 d) ∧ ¬ u.2 9 b = -1) := hf.imp id (fun ⟨b, h1, h2⟩ => ⟨b, by omega, h2⟩)
      rw [ck_nI hi20 (by decide), n31 (by omega), cd_c I (by omega) hd hkd]
      by_cases a1 : u.2 8 i = nI k
      · rw [if_pos a1, if_neg (fun y => y (q8 ▸ a1)), bi_s (op_m J hi20), hev]
        show (if cnV _ _ = 0 then _ else _) = _
        by_cases a2 : opV (w.2 16 (w.2 12 i).toNatClampNeg) = 0
        · rw [if_pos (cn_o a2), if_pos a2, if_pos rfl]; exact hrec f ls hf'
        · rw [if_neg a2, bi_s (hx_m hi20), q16]
          by_cases a3 : hxV (w.2 14 i) = 0
          · rw [if_neg (by rw [cn_1 a3 a2]; decide), if_neg (fun y => y a3)]
            have e1 := agr_c (u := u) (c := i) (d := d) (k := k) (by omega) hd hkd hk8
            have e2 := agr_m (w := w) (c := i) (k := k) (p := u.2 9 d) (x := u.2 10 d) (t := u.2 12 d) hi20 hk8 ht (by rw [← q12]; exact s12) hp (by rw [← q9]; exact s9)
            rw [← q9, ← q10, ← q12, ← RA_k R 0 (by decide), ← RA_k R 1 (by decide), ← RA_k R 2 (by decide), ← RA_k R 3 (by decide), ← RA_k R 4 (by decide)] at e2
            rw [bi_s e1, bi_s e2]
            by_cases a4 : agV (u.2 0) (u.2 1) (u.2 2) (u.2 3) (u.2 4) k (u.2 9 i) (u.2 10 i) (u.2 12 i) (u.2 9 d) (u.2 10 d) (u.2 12 d) = 1
            · obtain ⟨b1, b2⟩ := ag1 a4
              rw [if_neg (fun y => y a4), if_neg (fun y => y a4), if_neg (by decide : ¬ (1 : Int32) = 0), if_pos (by decide : ¬ (1 : Int32) = 2), ck_nI (n := 121) (by omega) (by decide), ck_nI hd (by decide), n31 hd, bi_s (sqc _ _)]
              have hnew : (nI i = -1 ∨ ∃ b : Nat, b < i + 1 ∧ (b : Int) < (u.1 0).toInt ∧ nI i = nI b ∧ sqr (u.2 9 i) (u.2 9 d) = sqr (u.2 9 b) (u.2 9 d) ∧ ¬ u.2 9 b = -1) := Or.inr ⟨i, by omega, hic, rfl, rfl, b1⟩
              rcases hf with hf | ⟨b, c1, c2, c3, c4, c5⟩
              · have eb : fm_isBetter w (nI i) f (nI k) (u.2 9 d) (u.2 10 d) = some (1 : Int32) := by
                  unfold fm_isBetter
                  rw [if_neg (by rw [hf]; decide)]
                rw [if_pos hf, bi_s eb, if_neg (by decide)]
                exact hrec _ _ hnew
              · have hb20 : b < 120 := by omega
                have sb := S.2.1 b c2
                obtain ⟨r7, r8, r9, _⟩ := R.2.2.2.1 b c2
                have z0 : (0 : Int32).toInt = 0 := by decide
                have zm : (-1 : Int32).toInt = -1 := by decide
                have ng : ∀ y : Int32, -1 ≤ y.toInt → ¬ y = -1 → ¬ y < 0 := fun y y1 y2 y3 => y2 (Int32.toInt_inj.mp (by have := Int32.lt_iff_toInt_lt.mp y3; omega))
                rw [if_neg (by rw [c3]; exact nI_m1 (by omega))]
                have e3 : fm_isBetter w (nI i) f (nI k) (u.2 9 d) (u.2 10 d) = if 0 ≤ lg_cmp (sqr (u.2 9 i) (u.2 9 d)) ls then some (0 : Int32) else some (1 : Int32) := by
                  unfold fm_isBetter
                  rw [c3, if_pos (nI_pos' (by omega)), if_neg (ng _ hp b2), ck_nI hi20 (by decide), n31 (by omega), n31 (by omega), ← q9, ← r9, if_neg (ng _ s9 b1), ck_nI hb20 (by decide), if_neg (ng _ sb.2.1 c5), ck_nI hi20 (by decide), bi_s (sqm _ _), ck_nI hb20 (by decide), bi_s (sqm _ _), c4]
                by_cases a5 : 0 ≤ lg_cmp (sqr (u.2 9 i) (u.2 9 d)) ls
                · rw [bi_s (e3.trans (if_pos a5)), if_pos a5, if_pos rfl]
                  exact hrec f ls hf'
                · rw [bi_s (e3.trans (if_neg a5)), if_neg a5, if_neg (by decide)]
                  exact hrec _ _ hnew
            · rw [if_pos a4, if_pos a4, if_pos rfl]; exact hrec f ls hf'
          · rw [if_pos (cn_h a3), if_pos a3, if_pos rfl]; exact hrec f ls hf'
      · rw [if_neg a1, if_pos (fun y => a1 (q8.trans y)), bi_s (rfl : some (0 : Int32) = some (0 : Int32)), if_pos rfl, if_pos rfl]; exact hrec f ls hf'
theorem great_eq (R : RA u w) (S : RS u) (I : IC g u) (J : IM g w) {d k : Nat} (hd : d < 121) (hk8 : k < 8) (hkd : u.2 8 d = nI k) (ht : 0 ≤ (u.2 12 d).toInt) (hp : -1 ≤ (u.2 9 d).toInt) : ∀ (n i : Nat) (f bb be : Int32), (f = -1 ∨ ∃ b : Nat, b < i ∧ (b : Int) < (u.1 0).toInt ∧ f = nI b ∧ bb = wS (u.2 4) k (u.2 10 b &&& u.2 10 d) ∧ be = wS (u.2 4) k (u.2 10 b ||| u.2 10 d)) → i ≤ 120 → fcJ_greatestShare_21 u n (nI d) (nI k) f bb be (nI i) = fm_agreeing_6 w n (2 : Int32) (nI k) (u.2 9 d) (u.2 10 d) (u.2 12 d) f (nI i) := by
  intro n
  induction n with
  | zero => intro i f bb be _ _; rfl
  | succ n ih =>
    intro i f bb be hf hi
    have z := IC_s I
    rw [fcJ_greatestShare_21_s, fm_agreeing_6_s, RA_z R]
    by_cases h : w.1 1 ≤ nI i
    · rw [if_pos h, if_pos h]
    · rw [if_neg h, if_neg h]
      obtain ⟨hic, hi20⟩ := ilt I R hi h
      obtain ⟨q7, q8, q9, q10, q12, q13, q14, q15, q16⟩ := R.2.2.2.1 i hic
      obtain ⟨s12, s9, s9', s13, s14⟩ := S.2.1 i hic
      have hev := ev_eq R S I hic
      have hrec : ∀ (f bb be : Int32), (f = -1 ∨ ∃ b : Nat, b < i + 1 ∧ (b : Int) < (u.1 0).toInt ∧ f = nI b ∧ bb = wS (u.2 4) k (u.2 10 b &&& u.2 10 d) ∧ be = wS (u.2 4) k (u.2 10 b ||| u.2 10 d)) → fcJ_greatestShare_21 u n (nI d) (nI k) f bb be (nI i + (1 : Int32)) = fm_agreeing_6 w n (2 : Int32) (nI k) (u.2 9 d) (u.2 10 d) (u.2 12 d) f (nI i + (1 : Int32)) := fun f bb be hf => by
        rw [nI_1]; exact ih (i + 1) f bb be hf (by omega)
      have hf' : (f = -1 ∨ ∃ b : Nat, b < i + 1 ∧ (b : Int) < (u.1 0).toInt ∧ f = nI b ∧ bb = wS (u.2 4) k (u.2 10 b &&& u.2 10 d) ∧ be = wS (u.2 4) k (u.2 10 b ||| u.2 10 d)) := hf.imp id (fun ⟨b, h1, h2⟩ => ⟨b, by omega, h2⟩)
      rw [ck_nI hi20 (by decide), n31 (by omega), cd_c I (by omega) hd hkd]
      by_cases a1 : u.2 8 i = nI k
      · rw [if_pos a1, if_neg (fun y => y (q8 ▸ a1)), bi_s (op_m J hi20), hev]
        show (if cnV _ _ = 0 then _ else _) = _
        by_cases a2 : opV (w.2 16 (w.2 12 i).toNatClampNeg) = 0
        · rw [if_pos (cn_o a2), if_pos a2, if_pos rfl]; exact hrec f bb be hf'
        · rw [if_neg a2, bi_s (hx_m hi20), q16]
          by_cases a3 : hxV (w.2 14 i) = 0
          · rw [if_neg (by rw [cn_1 a3 a2]; decide), if_neg (fun y => y a3)]
            have e1 := agr_c (u := u) (c := i) (d := d) (k := k) (by omega) hd hkd hk8
            have e2 := agr_m (w := w) (c := i) (k := k) (p := u.2 9 d) (x := u.2 10 d) (t := u.2 12 d) hi20 hk8 ht (by rw [← q12]; exact s12) hp (by rw [← q9]; exact s9)
            rw [← q9, ← q10, ← q12, ← RA_k R 0 (by decide), ← RA_k R 1 (by decide), ← RA_k R 2 (by decide), ← RA_k R 3 (by decide), ← RA_k R 4 (by decide)] at e2
            rw [bi_s e1, bi_s e2]
            by_cases a4 : agV (u.2 0) (u.2 1) (u.2 2) (u.2 3) (u.2 4) k (u.2 9 i) (u.2 10 i) (u.2 12 i) (u.2 9 d) (u.2 10 d) (u.2 12 d) = 2
            · rw [if_neg (fun y => y a4), if_neg (fun y => y a4), if_neg (by decide : ¬ (1 : Int32) = 0), if_neg (fun y => y rfl : ¬ ¬ (2 : Int32) = 2), ck_nI (n := 121) (by omega) (by decide), ck_nI hd (by decide), n31 hd, bi_s (weigh_e hk8 _), ck_nI (n := 121) (by omega) (by decide), ck_nI hd (by decide), bi_s (weigh_e hk8 _)]
              have hnew : (nI i = -1 ∨ ∃ b : Nat, b < i + 1 ∧ (b : Int) < (u.1 0).toInt ∧ nI i = nI b ∧ wS (u.2 4) k (u.2 10 i &&& u.2 10 d) = wS (u.2 4) k (u.2 10 b &&& u.2 10 d) ∧ wS (u.2 4) k (u.2 10 i ||| u.2 10 d) = wS (u.2 4) k (u.2 10 b ||| u.2 10 d)) := Or.inr ⟨i, by omega, hic, rfl, rfl, rfl⟩
              rcases hf with hf | ⟨b, c1, c2, c3, c4, c5⟩
              · have eb : fm_isBetter w (nI i) f (nI k) (-1 : Int32) (u.2 10 d) = some (1 : Int32) := by
                  unfold fm_isBetter
                  rw [if_neg (by rw [hf]; decide)]
                rw [if_pos hf, bi_s eb, if_neg (by decide)]
                exact hrec _ _ _ hnew
              · have hb20 : b < 120 := by omega
                obtain ⟨r7, r8, r9, r10, _⟩ := R.2.2.2.1 b c2
                rw [if_neg (by rw [c3]; exact nI_m1 (by omega))]
                have e3 : fm_isBetter w (nI i) f (nI k) (-1 : Int32) (u.2 10 d) = if wS (u.2 4) k (u.2 10 i &&& u.2 10 d) * be ≤ bb * wS (u.2 4) k (u.2 10 i ||| u.2 10 d) then some (0 : Int32) else some (1 : Int32) := by
                  unfold fm_isBetter
                  rw [c3, if_pos (nI_pos' (by omega)), if_pos (by decide)]
                  unfold fm_isBetter_61
                  rw [ck_nI hi20 (by decide), bi_s (sum_e hk8 _), ck_nI hb20 (by decide), bi_s (sum_e hk8 _), ck_nI hb20 (by decide), bi_s (sum_e hk8 _), ck_nI hi20 (by decide), bi_s (sum_e hk8 _), n31 (by omega), n31 (by omega), ← q10, ← r10, ← RA_k R 4 (by decide), c4, c5]
                by_cases a5 : wS (u.2 4) k (u.2 10 i &&& u.2 10 d) * be ≤ bb * wS (u.2 4) k (u.2 10 i ||| u.2 10 d)
                · rw [bi_s (e3.trans (if_pos a5)), if_pos a5, if_pos rfl]
                  exact hrec f bb be hf'
                · rw [bi_s (e3.trans (if_neg a5)), if_neg a5, if_neg (by decide)]
                  exact hrec _ _ _ hnew
            · rw [if_pos a4, if_pos a4, if_pos rfl]; exact hrec f bb be hf'
          · rw [if_pos (cn_h a3), if_pos a3, if_pos rfl]; exact hrec f bb be hf'
      · rw [if_neg a1, if_pos (fun y => a1 (q8.trans y)), bi_s (rfl : some (0 : Int32) = some (0 : Int32)), if_pos rfl, if_pos rfl]; exact hrec f bb be hf'
def lastP (P : Nat → Bool) : Nat → Option Nat
  | 0 => none
  | n + 1 => if P n = true then some n else lastP P n
theorem lastP_s (P : Nat → Bool) (n : Nat) : lastP P (n + 1) = if P n = true then some n else lastP P n := rfl
theorem lastP_lt {P : Nat → Bool} : ∀ {n c : Nat}, lastP P n = some c → c < n := by
  intro n
  induction n with
  | zero => intro c h; cases h
  | succ n ih =>
    intro c h
    rw [lastP_s] at h
    by_cases q : P n = true
    · rw [if_pos q] at h; have := Option.some.inj h; omega
    · rw [if_neg q] at h; have := ih h; omega
def encO (o : Option Nat) : Int32 := match o with | none => -1 | some c => nI c
def agP (u : g_S) (d : Nat) (c : Nat) : Bool := decide (u.2 7 c = u.2 7 d ∧ ¬ cnV (hxV (u.2 16 c)) (opV (u.2 17 (u.2 13 c).toNatClampNeg)) = 0)
def agR (u : g_S) (d k : Nat) (o : Option Nat) : Option Int32 := match o with | none => some (-1 : Int32) | some c => if u.2 1 k < u.2 12 d - u.2 12 c then some (-1 : Int32) else some (nI c)
theorem line_c (I : IC g u) {d k : Nat} (hd : d < 121) (hk8 : k < 8) (hkd : u.2 8 d = nI k) : ∀ (n m : Nat), n < m → n ≤ 120 → fcJ_latestOfLine_10 u m (nI d) (nI n - (1 : Int32)) = agR u d k (lastP (agP u d) n) := by
  intro n
  induction n with
  | zero =>
    intro m hm _
    obtain ⟨m, rfl⟩ : ∃ m', m = m' + 1 := ⟨m - 1, by omega⟩
    rw [fcJ_latestOfLine_10_s, if_pos (by decide)]; rfl
  | succ n ih =>
    intro m hm hn
    obtain ⟨m, rfl⟩ : ∃ m', m = m' + 1 := ⟨m - 1, by omega⟩
    rw [nI_pred, fcJ_latestOfLine_10_s, if_neg (nI_pos (by omega)), ck_nI (n := 121) (by omega) (by decide), ck_nI hd (by decide), n31 (by omega), n31 hd, lastP_s]
    have hr : nI n + (-1 : Int32) = nI n - (1 : Int32) := by rw [Int32.sub_eq_add_neg]
    by_cases a : u.2 7 n = u.2 7 d
    · rw [if_neg (fun y => y a), bi_s (cn_c I (by omega))]
      by_cases b : cnV (hxV (u.2 16 n)) (opV (u.2 17 (u.2 13 n).toNatClampNeg)) = 0
      · rw [if_pos b, if_neg (by unfold agP; rw [decide_eq_true_eq]; exact fun y => y.2 b), hr]
        exact ih m (by omega) (by omega)
      · rw [if_neg b, if_pos (by unfold agP; rw [decide_eq_true_eq]; exact ⟨a, b⟩)]
        have hs : fcJ_isWithinSpan u (nI n) (nI d) = if u.2 1 k < u.2 12 d - u.2 12 n then some (0 : Int32) else some (1 : Int32) := by
          unfold fcJ_isWithinSpan
          rw [ck_nI hd (by decide), ck_nI (n := 121) (by omega) (by decide), ck_nI hd (by decide), n31 hd, n31 (show n < 121 by omega), hkd, ck_nI hk8 (by decide), nI_clamp (show k < 2 ^ 31 by omega)]
        rw [hs]
        show _ = (if u.2 1 k < u.2 12 d - u.2 12 n then some (-1 : Int32) else some (nI n))
        by_cases e : u.2 1 k < u.2 12 d - u.2 12 n
        · rw [if_pos e, if_pos e]; rfl
        · rw [if_neg e, if_neg e]; rfl
    · rw [if_pos a, if_neg (by unfold agP; rw [decide_eq_true_eq]; exact fun y => a y.1), hr]
      exact ih m (by omega) (by omega)
theorem line_m (R : RA u w) (S : RS u) (I : IC g u) (J : IM g w) {d k N : Nat} (hk8 : k < 8) (ht : 0 ≤ (u.2 12 d).toInt) (hN : w.1 1 = nI N) (hN2 : N ≤ 120) : ∀ (j i m : Nat), i + j = N → j < m → fm_again_6 w m (u.2 7 d) (nI k) (u.2 12 d) (encO (lastP (agP u d) i)) (nI i) = agR u d k (lastP (agP u d) N) := by
  have z0 : (nI N).toInt = N := nI_toInt (by omega)
  intro j
  induction j with
  | zero =>
    intro i m hi hm
    obtain ⟨m, rfl⟩ : ∃ m', m = m' + 1 := ⟨m - 1, by omega⟩
    obtain rfl : i = N := by omega
    rw [fm_again_6_s, hN, if_pos (nI_le (Nat.le_refl _) (by omega))]
    cases hl : lastP (agP u d) i with
    | none => rfl
    | some c =>
      have hc := lastP_lt hl
      have hcu : (c : Int) < (u.1 0).toInt := by rw [RA_z R, hN, z0]; omega
      obtain ⟨q7, q8, q9, q10, q12, _⟩ := R.2.2.2.1 c hcu
      rw [show encO (some c) = nI c from rfl, show agR u d k (some c) = (if u.2 1 k < u.2 12 d - u.2 12 c then some (-1 : Int32) else some (nI c)) from rfl, if_neg (nI_pos (by omega)), ck_nI (n := 120) (by omega) (by decide), ck_nI hk8 (by decide), n31 (show c < 121 by omega), nI_clamp (show k < 2 ^ 31 by omega), ← q12, ← RA_k R 1 (by decide)]
      by_cases e : u.2 1 k < u.2 12 d - u.2 12 c
      · rw [if_pos ((span_iff2 ht (S.2.1 c hcu).1).mpr e), if_pos e]
      · rw [if_neg (fun y => e ((span_iff2 ht (S.2.1 c hcu).1).mp y)), if_neg e]
  | succ j ih =>
    intro i m hi hm
    obtain ⟨m, rfl⟩ : ∃ m', m = m' + 1 := ⟨m - 1, by omega⟩
    have hiu : (i : Int) < (u.1 0).toInt := by rw [RA_z R, hN, z0]; omega
    obtain ⟨q7, q8, q9, q10, q12, q13, q14, q15, q16⟩ := R.2.2.2.1 i hiu
    have hev := ev_eq R S I hiu
    rw [fm_again_6_s, hN, if_neg (nI_ge (by omega) (by omega)), ck_nI (n := 120) (by omega) (by decide), n31 (by omega)]
    have hrec : ∀ f, f = encO (lastP (agP u d) (i + 1)) → fm_again_6 w m (u.2 7 d) (nI k) (u.2 12 d) f (nI i + (1 : Int32)) = agR u d k (lastP (agP u d) N) := fun f hf => by
      rw [nI_1, hf]; exact ih (i + 1) m (by omega) (by omega)
    by_cases a : u.2 7 i = u.2 7 d
    · rw [if_neg (fun y => y (q7 ▸ a)), bi_s (op_m J (by omega))]
      by_cases b : opV (w.2 16 (w.2 12 i).toNatClampNeg) = 0
      · rw [if_pos b]
        exact hrec _ (by rw [lastP_s, if_neg (by unfold agP; rw [decide_eq_true_eq]; exact fun y => y.2 (cn_o (by rw [hev]; exact b)))])
      · rw [if_neg b, bi_s (hx_m (by omega))]
        by_cases e : hxV (w.2 14 i) = 0
        · rw [if_neg (fun y => y e)]
          exact hrec _ (by rw [lastP_s, if_pos (by unfold agP; rw [decide_eq_true_eq]; exact ⟨a, by rw [cn_1 (by rw [q16]; exact e) (by rw [hev]; exact b)]; decide⟩)]; rfl)
        · rw [if_pos e]
          exact hrec _ (by rw [lastP_s, if_neg (by unfold agP; rw [decide_eq_true_eq]; exact fun y => y.2 (cn_h (by rw [q16]; exact e)))])
    · rw [if_pos (fun y => a (q7.trans y))]
      exact hrec _ (by rw [lastP_s, if_neg (by unfold agP; rw [decide_eq_true_eq]; exact fun y => a y.1)])
theorem again_eq (R : RA u w) (S : RS u) (I : IC g u) (J : IM g w) {d k : Nat} (hd : d < 121) (hk8 : k < 8) (hkd : u.2 8 d = nI k) (ht : 0 ≤ (u.2 12 d).toInt) : fcJ_latestOfLine u (nI d) = fm_again w (u.2 7 d) (nI k) (u.2 12 d) := by
  have z := IC_s I
  obtain ⟨N, hN1, hN⟩ := nI_of (x := u.1 0) (fun q => by have := Int32.lt_iff_toInt_lt.mp q; rw [show (0 : Int32).toInt = 0 by decide] at this; omega)
  have hN2 : N ≤ 120 := by have := nI_toInt hN1; rw [← hN] at this; omega
  show fcJ_latestOfLine_10 u 200 (nI d) ((u.1 0) - (1 : Int32)) = fm_again_6 w 200 (u.2 7 d) (nI k) (u.2 12 d) (-1 : Int32) (0 : Int32)
  rw [hN, line_c I hd hk8 hkd N 200 (by omega) hN2]
  exact (line_m R S I J hk8 ht (by rw [← RA_z R]; exact hN) hN2 N 0 200 (by omega) (by omega)).symm
end SRC
