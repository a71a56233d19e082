set_option maxHeartbeats 4000000 in
theorem law_loop {p : Program} {l : Launch} (hl9 : l.stackTraces = false) {e : Env} {s : State} {m : MethodId} {below : List Frame} {meth : Method} {c : Code} {D : va_G} {a b : Nat → Nat} {ao sb L : Nat} {cA cL : ClassId} {xs : Nat → Int32} (C0 : lw_At p s m meth c sb L xs) (C1 : law_C D a b ao cA cL s) (hL : L ≤ lawN) : ∀ (n i : Nat) (x4 : Int32) (u w : g_S) (f : Nat → Int64) (cells slots : Nat), i ≤ L → L < i + 7 * n → x4 = nI i → Rel u w → cells + 1 * n ≤ lawMc + 1 → slots + 6 * n ≤ lawMs + 6 → ∀ (H : Heap) (locs : List Loc), va_P D vwCl (lawW a b ao cA cL ((u, f), w)) H → va_S (rg (lawA a b ao) s.heap.size) s.heap H locs → ∀ (ls : Array Slot), lv_has ls 7 [(0, .ref sb), (1, .ref (a 0)), (2, .ref (b 0)), (3, .ref ao), (4, .int x4)] → W p l e room_1 s m #[Value.ref sb] below meth c H locs cells slots (lw_Z below #[Value.ref sb] s) (F0 m 23 ls []) := by
  obtain ⟨hx, hb, hr, hml, hown, hts0, hX, hbl, hlocks, hgv⟩ := id C0
  obtain ⟨hK, hn, hge, hgX⟩ := id C1
  have hbA : ¬ rg (lawA a b ao) s.heap.size sb := law_nb hge hbl
  have hL31 : L < 2 ^ 31 := Nat.lt_of_le_of_lt hL (by decide)
  intro n
  induction n with
  | zero =>
    intro i x4 u w f cells slots h1 h2
    exact absurd h2 (by omega)
  | succ n ih =>
    intro i x4 u w f cells slots hi hin ex4 hR hc9 hs9 H locs hP hS ls hl
    have hm1 : lawMc ≤ room_1.cells := Nat.le_of_ble_eq_true rfl
    have hm2 : lawMs ≤ room_1.slots := Nat.le_of_ble_eq_true rfl
    refine lv_iload hx hb dL_law_23 (lv_at hl 4 rfl) ?_
    refine lv_aload_n hx hb dL_law_25 rfl (lv_at hl 0 rfl) ?_
    refine va_slen hx hb hX hbl hbA hS dL_law_26 ?_
    refine lv_bipush (v := (7 : Int32)) hx hb dL_law_27 (by decide) ?_
    refine lv_isub hx hb dL_law_29 ?_
    refine lv_icmp_gt (tgt := 927) hx hb dL_law_30 (by decide) (fun c1 => ?_) (fun c1 => ?_)
    · refine lv_iconst (v := 1) hx hb dL_law_927 (by decide) ?_
      refine va_forget (fun q hq => law_ge hge (hS.2.2 q hq)) ?_
      refine W.widen (k := lawMc) (n := lawMs) (by omega) (by omega) ?_
      exact lw_ret hx hb hr hlocks dL_law_928
    · have hi7 : i + 7 ≤ L := law_cn hL (by omega) ex4 c1
      refine lv_aload_n hx hb dL_law_33 rfl (lv_at hl 0 rfl) ?_
      refine lv_iload hx hb dL_law_34 (lv_at hl 4 rfl) ?_
      refine va_sld hx hb hX hbl hbA hS (law_i0 ex4 (by omega) hL31) dL_law_36 ?_
      refine lv_bipush (v := (15 : Int32)) hx hb dL_law_37 (by decide) ?_
      refine lv_iand hx hb dL_law_39 ?_
      refine lv_topi (fun t et => ?_)
      have kk : ∀ (u w : g_S) (f : Nat → Int64) (H : Heap) (locs : List Loc) (ls : Array Slot), Rel u w → va_P D vwCl (lawW a b ao cA cL ((u, f), w)) H → va_S (rg (lawA a b ao) s.heap.size) s.heap H locs → lv_has ls 7 [(0, .ref sb), (1, .ref (a 0)), (2, .ref (b 0)), (3, .ref ao), (4, .int x4)] → W p l e room_1 s m #[Value.ref sb] below meth c H locs (cells + 1) (slots + 6) (lw_Z below #[Value.ref sb] s) (F0 m 921 ls []) := by
        intro u w f H locs ls hR hP hS hl
        refine lv_iinc (v := x4 + (7 : Int32)) (lv' := [(4, .int (x4 + (7 : Int32))), (0, .ref sb), (1, .ref (a 0)), (2, .ref (b 0)), (3, .ref ao)]) hx hb dL_law_921 hl (k := 4) rfl rfl (by decide) rfl (fun ls hl => ?_)
        refine lv_goto (tgt := 23) hx hb dL_law_924 (by decide) ?_
        exact ih (i + 7) _ u w f _ _ (by omega) (by omega) (by rw [ex4]; exact nI_add i 7) hR (by omega) (by omega) H locs hP hS ls (lv_sub hl [1, 2, 3, 4, 0] rfl)
      by_cases e0 : t = (0 : Int32)
      · refine lv_tableIn (off := 80) (tgt := 120) hx hb dL_law_40 (by rw [e0]; decide) (by rw [e0]; decide) (by rw [e0]; rfl) (by decide) ?_
        exact law_k0 hl9 C0 C1 hi7 hL ex4 hR (by omega) (by omega) hP hS hl kk
      by_cases e1 : t = (1 : Int32)
      · refine lv_tableIn (off := 153) (tgt := 193) hx hb dL_law_40 (by rw [e1]; decide) (by rw [e1]; decide) (by rw [e1]; rfl) (by decide) ?_
        exact law_k1 hl9 C0 C1 hi7 hL ex4 hR (by omega) (by omega) hP hS hl kk
      by_cases e2 : t = (2 : Int32)
      · refine lv_tableIn (off := 202) (tgt := 242) hx hb dL_law_40 (by rw [e2]; decide) (by rw [e2]; decide) (by rw [e2]; rfl) (by decide) ?_
        exact law_k2 hl9 C0 C1 hi7 hL ex4 hR (by omega) (by omega) hP hS hl kk
      by_cases e3 : t = (3 : Int32)
      · refine lv_tableIn (off := 242) (tgt := 282) hx hb dL_law_40 (by rw [e3]; decide) (by rw [e3]; decide) (by rw [e3]; rfl) (by decide) ?_
        exact law_k3 hl9 C0 C1 hi7 hL ex4 hR (by omega) (by omega) hP hS hl kk
      by_cases e4 : t = (4 : Int32)
      · refine lv_tableIn (off := 332) (tgt := 372) hx hb dL_law_40 (by rw [e4]; decide) (by rw [e4]; decide) (by rw [e4]; rfl) (by decide) ?_
        exact law_k4 hl9 C0 C1 hi7 hL ex4 hR (by omega) (by omega) hP hS hl kk
      by_cases e5 : t = (5 : Int32)
      · refine lv_tableIn (off := 422) (tgt := 462) hx hb dL_law_40 (by rw [e5]; decide) (by rw [e5]; decide) (by rw [e5]; rfl) (by decide) ?_
        exact law_k5 hl9 C0 C1 hi7 hL ex4 hR (by omega) (by omega) hP hS hl kk
      by_cases e6 : t = (6 : Int32)
      · refine lv_tableIn (off := 459) (tgt := 499) hx hb dL_law_40 (by rw [e6]; decide) (by rw [e6]; decide) (by rw [e6]; rfl) (by decide) ?_
        exact law_k6 hl9 C0 C1 hi7 hL ex4 hR (by omega) (by omega) hP hS hl kk
      by_cases e7 : t = (7 : Int32)
      · refine lv_tableIn (off := 487) (tgt := 527) hx hb dL_law_40 (by rw [e7]; decide) (by rw [e7]; decide) (by rw [e7]; rfl) (by decide) ?_
        exact law_k7 hl9 C0 C1 hi7 hL ex4 hR (by omega) (by omega) hP hS hl kk
      by_cases e8 : t = (8 : Int32)
      · refine lv_tableIn (off := 527) (tgt := 567) hx hb dL_law_40 (by rw [e8]; decide) (by rw [e8]; decide) (by rw [e8]; rfl) (by decide) ?_
        exact law_k8 hl9 C0 C1 hi7 hL ex4 hR (by omega) (by omega) hP hS hl kk
      by_cases e9 : t = (9 : Int32)
      · refine lv_tableIn (off := 588) (tgt := 628) hx hb dL_law_40 (by rw [e9]; decide) (by rw [e9]; decide) (by rw [e9]; rfl) (by decide) ?_
        exact law_k9 hl9 C0 C1 hi7 hL ex4 hR (by omega) (by omega) hP hS hl kk
      by_cases e10 : t = (10 : Int32)
      · refine lv_tableIn (off := 625) (tgt := 665) hx hb dL_law_40 (by rw [e10]; decide) (by rw [e10]; decide) (by rw [e10]; rfl) (by decide) ?_
        exact law_k10 hl9 C0 C1 hi7 hL ex4 hR (by omega) (by omega) hP hS hl kk
      by_cases e11 : t = (11 : Int32)
      · refine lv_tableIn (off := 665) (tgt := 705) hx hb dL_law_40 (by rw [e11]; decide) (by rw [e11]; decide) (by rw [e11]; rfl) (by decide) ?_
        exact law_k11 hl9 C0 C1 hi7 hL ex4 hR (by omega) (by omega) hP hS hl kk
      by_cases e12 : t = (12 : Int32)
      · refine lv_tableIn (off := 705) (tgt := 745) hx hb dL_law_40 (by rw [e12]; decide) (by rw [e12]; decide) (by rw [e12]; rfl) (by decide) ?_
        exact law_k12 hl9 C0 C1 hi7 hL ex4 hR (by omega) (by omega) hP hS hl kk
      by_cases e13 : t = (13 : Int32)
      · refine lv_tableIn (off := 745) (tgt := 785) hx hb dL_law_40 (by rw [e13]; decide) (by rw [e13]; decide) (by rw [e13]; rfl) (by decide) ?_
        exact law_k13 hl9 C0 C1 hi7 hL ex4 hR (by omega) (by omega) hP hS hl kk
      by_cases e14 : t = (14 : Int32)
      · refine lv_tableIn (off := 785) (tgt := 825) hx hb dL_law_40 (by rw [e14]; decide) (by rw [e14]; decide) (by rw [e14]; rfl) (by decide) ?_
        exact law_k14 hl9 C0 C1 hi7 hL ex4 hR (by omega) (by omega) hP hS hl kk
      by_cases e15 : t = (15 : Int32)
      · refine lv_tableIn (off := 825) (tgt := 865) hx hb dL_law_40 (by rw [e15]; decide) (by rw [e15]; decide) (by rw [e15]; rfl) (by decide) ?_
        exact law_k15 hl9 C0 C1 hi7 hL ex4 hR (by omega) (by omega) hP hS hl kk
      refine lv_tableOut (tgt := 921) hx hb dL_law_40 (by have := lv_neT e0 (a := 0) (by decide); have := lv_neT e1 (a := 1) (by decide); have := lv_neT e2 (a := 2) (by decide); have := lv_neT e3 (a := 3) (by decide); have := lv_neT e4 (a := 4) (by decide); have := lv_neT e5 (a := 5) (by decide); have := lv_neT e6 (a := 6) (by decide); have := lv_neT e7 (a := 7) (by decide); have := lv_neT e8 (a := 8) (by decide); have := lv_neT e9 (a := 9) (by decide); have := lv_neT e10 (a := 10) (by decide); have := lv_neT e11 (a := 11) (by decide); have := lv_neT e12 (a := 12) (by decide); have := lv_neT e13 (a := 13) (by decide); have := lv_neT e14 (a := 14) (by decide); have := lv_neT e15 (a := 15) (by decide); omega) (by decide) ?_
      refine W.widen (k := cells + 1) (n := slots + 6) (by omega) (by omega) ?_
      exact kk u w f H locs ls hR hP hS hl
