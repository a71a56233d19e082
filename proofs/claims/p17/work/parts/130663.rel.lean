def RA (u w : g_S) : Prop := u.1 0 = w.1 1 ∧ u.1 1 = w.1 2 ∧ (∀ k, k < 7 → u.2 k = w.2 k) ∧
  (∀ c : Nat, (c : Int) < (u.1 0).toInt → u.2 7 c = w.2 7 c ∧ u.2 8 c = w.2 8 c ∧ u.2 9 c = w.2 9 c ∧ u.2 10 c = w.2 10 c ∧ u.2 12 c = w.2 11 c ∧ u.2 13 c = w.2 12 c ∧ u.2 14 c = w.2 13 c ∧ u.2 15 c = w.2 15 c ∧ u.2 16 c = w.2 14 c) ∧
  (∀ e : Nat, (e : Int) < (u.1 1).toInt → u.2 17 e = w.2 16 e ∧ (¬ u.2 17 e = 3 → u.2 20 e = w.2 17 e ∧ (¬ u.2 20 e = -1 → (u.2 21 e = w.2 18 e ∧ u.2 22 e = w.2 19 e ∧ (w.2 18 e).toInt < (w.2 19 e).toInt) ∨ (u.2 21 e = w.2 19 e ∧ u.2 22 e = w.2 18 e ∧ (w.2 19 e).toInt < (w.2 18 e).toInt))))
def RS (u : g_S) : Prop :=
  (∀ j : Nat, 0 ≤ (u.2 6 j).toInt ∧ (u.2 6 j).toInt ≤ 99999999) ∧
  (∀ c : Nat, (c : Int) < (u.1 0).toInt → 0 ≤ (u.2 12 c).toInt ∧ -1 ≤ (u.2 9 c).toInt ∧ (u.2 9 c).toInt ≤ 99999999 ∧ (u.2 13 c).toInt < (u.1 1).toInt ∧ (u.2 14 c).toInt < (u.1 0).toInt) ∧
  (∀ c : Nat, (c : Int) < (u.1 0).toInt → 0 ≤ (u.2 14 c).toInt → u.2 13 (u.2 14 c).toNatClampNeg = u.2 13 c) ∧
  (∀ e : Nat, (e : Int) < (u.1 1).toInt → ¬ u.2 17 e = 3 → 0 ≤ (u.2 19 e).toInt ∧ (u.2 19 e).toInt < (u.1 0).toInt ∧ (u.2 13 (u.2 19 e).toNatClampNeg).toInt = e ∧ u.2 14 (u.2 19 e).toNatClampNeg = -1 ∧ u.2 18 e = u.2 8 (u.2 19 e).toNatClampNeg ∧ ∀ c : Nat, (c : Int) < (u.1 0).toInt → (u.2 13 c).toInt = e → (u.2 14 c).toInt < 0 → (c : Int) = (u.2 19 e).toInt)
def hxV (m : Int32) : Int32 := if (m &&& (4 : Int32)) = 0 then 0 else 1
def opV (s : Int32) : Int32 := if ¬ s = 0 then 0 else 1
def cnV (h o : Int32) : Int32 := if ¬ h = 0 then 0 else if o = 0 then 0 else 1
section RL1
variable {g : Nat → Int32} {u w : g_S}
theorem n31 {c : Nat} (h : c < 121) : (nI c).toNatClampNeg = c := nI_clamp (by omega)
theorem hx_c {c : Nat} (h : c < 121) : fcA_isHoax u (nI c) = some (hxV (u.2 16 c)) := by
  unfold fcA_isHoax hxV
  rw [ck_nI h (by decide), n31 h]
  by_cases q : (u.2 16 c &&& (4 : Int32)) = 0
  · rw [if_pos q, if_pos q]
  · rw [if_neg q, if_neg q]
theorem hx_m {c : Nat} (h : c < 120) : fm_isHoax w (nI c) = some (hxV (w.2 14 c)) := by
  unfold fm_isHoax hxV
  rw [ck_nI h (by decide), n31 (by omega)]
  by_cases q : (w.2 14 c &&& (4 : Int32)) = 0
  · rw [if_pos q, if_pos q]
  · rw [if_neg q, if_neg q]
theorem op_c (I : IC g u) {c : Nat} (h : c < 121) : fcJ_isInOpenEvent u (nI c) = some (opV (u.2 17 (u.2 13 c).toNatClampNeg)) := by
  have r := IC_r13 I c
  unfold fcJ_isInOpenEvent opV
  rw [ck_nI h (by decide), n31 h, ck_in (vp_I (by omega) (by omega))]
  by_cases q : u.2 17 (u.2 13 c).toNatClampNeg = 0
  · rw [if_neg (fun z => z q), if_neg (fun z => z q)]
  · rw [if_pos q, if_pos q]
theorem op_m (I : IM g w) {c : Nat} (h : c < 120) : fm_isOpen w (nI c) = some (opV (w.2 16 (w.2 12 c).toNatClampNeg)) := by
  have r := IM_r12 I c
  unfold fm_isOpen opV
  rw [ck_nI h (by decide), n31 (by omega), ck_in (vp_I (by omega) (by omega))]
  by_cases q : w.2 16 (w.2 12 c).toNatClampNeg = 0
  · rw [if_neg (fun z => z q), if_neg (fun z => z q)]
  · rw [if_pos q, if_pos q]
theorem cn_c (I : IC g u) {c : Nat} (h : c < 121) : fcJ_canBeReason u (nI c) = some (cnV (hxV (u.2 16 c)) (opV (u.2 17 (u.2 13 c).toNatClampNeg))) := by
  unfold fcJ_canBeReason cnV
  rw [bi_s (hx_c h)]
  by_cases q : hxV (u.2 16 c) = 0
  · rw [if_neg (fun z => z q), if_neg (fun z => z q), bi_s (op_c I h)]
    by_cases q2 : opV (u.2 17 (u.2 13 c).toNatClampNeg) = 0
    · rw [if_pos q2, if_pos q2]
    · rw [if_neg q2, if_neg q2]
  · rw [if_pos q, if_pos q]
theorem RA_z (R : RA u w) : u.1 0 = w.1 1 := R.1
theorem RA_e (R : RA u w) : u.1 1 = w.1 2 := R.2.1
theorem RA_k (R : RA u w) (k : Nat) (h : k < 7) : u.2 k = w.2 k := R.2.2.1 k h
theorem ev_eq (R : RA u w) (S : RS u) (I : IC g u) {c : Nat} (h : (c : Int) < (u.1 0).toInt) : u.2 17 (u.2 13 c).toNatClampNeg = w.2 16 (w.2 12 c).toNatClampNeg := by
  have a := (R.2.2.2.1 c h).2.2.2.2.2.1
  have b := (S.2.1 c h).2.2.2.1
  have r := IC_r13 I c
  have hc : ((u.2 13 c).toNatClampNeg : Int) = (u.2 13 c).toInt := cl_I (by omega)
  rw [← a]
  exact (R.2.2.2.2 _ (by omega)).1
end RL1
