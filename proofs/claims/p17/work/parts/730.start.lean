set_option maxHeartbeats 8000000 in
set_option maxRecDepth 100000 in
theorem whole_start {p : Program} {e : Env} {s : State} {m : MethodId} {below : List Frame} {meth : Method} {c : Code} (l : Launch) (hl9 : l.stackTraces = false) {b L : Nat} {xs : Nat → Int32} (hL : L ≤ 3584) (C0 : lw_At p s m meth c b L xs) : W p l e room_1 s m #[Value.ref b] below meth c s.heap [] 0 0 (lw_Z below #[Value.ref b] s) (entryFrame m ([Value.ref b] : List Value).toArray 7) := by
  obtain ⟨hx, hb, hr, hml, hown, hts0, hX, hbl, hlocks, hgv⟩ := id C0
  have hown : s.vm.findClass RL = some m.cls := hown
  have hts : ∀ w ∈ gT, w.before #[Value.ref b] s = true := fun w h => hts0 w (List.mem_filter.mp h).1
  have hA : ∀ q : Nat, s.heap.size ≤ q → (fun q : Nat => s.heap.size ≤ q) q := fun _ h => h
  obtain ⟨c0, iS0, hKn0⟩ := u_known (C := RX0) (T := TX0) (N := 11) (n := 11) hts0 inX0 (hts _ kt_71)
  obtain ⟨c1, iS1, hKn1⟩ := u_known (C := RX1) (T := TX1) (N := 7) (n := 7) hts0 inX1 (hts _ kt_122)
  obtain ⟨c2, iS2, hKn2⟩ := u_known (C := RX2) (T := TX2) (N := 2) (n := 2) hts0 inX2 (hts _ kt_57)
  obtain ⟨c3, iS3, hKn3⟩ := u_known (C := RX3) (T := TX3) (N := 5) (n := 5) hts0 inX3 (hts _ kt_26)
  obtain ⟨c4, iS4, hKn4⟩ := u_known (C := RX4) (T := TX4) (N := 4) (n := 4) hts0 inX4 (hts _ kt_18)
  obtain ⟨c5, iS5, hKn5⟩ := u_known (C := RX6) (T := TX6) (N := 24) (n := 24) hts0 inX6 (hts _ kt_598)
  obtain ⟨D, hKc⟩ : ∃ D : va_G, ∀ (k : Nat) (q : vw_C), vwCl[k]? = some q → u_Kn s q.1 q.2.1 q.2.2 (D.1 k) (D.2 k) := by
    refine ⟨(fun k => match k with | 0 => c0 | 1 => c1 | 2 => c2 | 3 => c3 | 4 => c4 | _ => c5, fun k => match k with | 0 => iS0 | 1 => iS1 | 2 => iS2 | 3 => iS3 | 4 => iS4 | _ => iS5), ?_⟩
    intro k q hq
    match k, hq with
    | 0, hq => cases hq; exact hKn0
    | 1, hq => cases hq; exact hKn1
    | 2, hq => cases hq; exact hKn2
    | 3, hq => cases hq; exact hKn3
    | 4, hq => cases hq; exact hKn4
    | 5, hq => cases hq; exact hKn5
    | k + 6, hq => simp [vwCl] at hq
  obtain ⟨cA, hAr⟩ := gA_of (args := #[Value.ref b]) (hts _ kt_55)
  have hK : va_K D vwCl [(cA, .int)] s := ⟨hKc, fun k q h => by
    match k, h with
    | 0, h => cases h; exact hAr
    | k + 1, h => simp at h⟩
  have hS : va_S (fun q : Nat => s.heap.size ≤ q) s.heap s.heap [] := va_S.rf
  have hP : va_P D vwCl [] s.heap := fun k q h => by simp at h
  have hD : va_D (fun q : Nat => s.heap.size ≤ q) [] := ⟨fun i j p q h => by simp at h, fun k q h => by simp at h⟩
  have hl := lv_entry ([.ref b]) (n := 7) (Nat.le_of_ble_eq_true rfl)
  rw [lg_entry_eq]
  generalize (lg_sl ([.ref b]) ++ List.replicate (7 - (lg_sl ([.ref b])).length) Slot.unset).toArray = ls at hl ⊢
  have hl : lv_has ls 7 [(0, .ref b)] := hl
  refine va_new (ci := 4) (fs := [.null, .null, .null, .null]) (C := RX4) (T := TX4) (N := 4) hx hb hts igX4 tyX4 tyX4_ok hown (hts _ kt_17) (hts _ kt_18) (hts _ kt_1) hK hP hD hS hA rfl (by decide) (Nat.le_of_ble_eq_true rfl) (Nat.le_of_ble_eq_true rfl) dL_law_0 (fun x0 H hP hD hS => ?_)
  refine W.widen (k := 1) (n := 4) (Nat.le_of_ble_eq_true rfl) (Nat.le_of_ble_eq_true rfl) ?_
  refine lv_dup hx hb dL_law_3 rfl ?_
  have hP : va_P D vwCl [(x0, .inr (4, [.null, .null, .null, .null]))] H := hP
  have hD : va_D (fun q : Nat => s.heap.size ≤ q) [(x0, .inr (4, [.null, .null, .null, .null]))] := hD
  have hPc := hP.sub (ws' := [(x0, .inr (4, [.null, .null, .null, .null]))]) [0] rfl
  have hDc := hD.sub (ws' := [(x0, .inr (4, [.null, .null, .null, .null]))]) [0] (by decide) rfl
  have hFc := va_free (wc := [(x0, .inr (4, [.null, .null, .null, .null]))]) hD hS hA [0] rfl
  refine va_callv (va_runI (As := []) (rest := [.ref x0]) ⟨hx, hb, hml, hown, hts⟩ (iX4_init (l := l) (D := D) (cA := cA) (h0 := x0) (sz := H.size)) (cwI 0 hts (gT_good wxX4_init_in) rfl rfl rfl (hts _ kt_1) (hts _ kt_19) (hts _ kt_20) rfl (by decide +kernel) ⟨Nat.le_of_ble_eq_true rfl, Nat.le_of_ble_eq_true rfl⟩) ⟨gi_blind, fun U hU hW => ⟨rfl, by rw [hU], by rw [hU]; exact hPc, va_K.moved hW.alike hK, hDc.weaken (fun _ _ _ _ => trivial)⟩⟩ rfl rfl hl.1 rfl (lv_room (Nat.le_of_ble_eq_true rfl)) dL_law_4 ⟨Nat.le_of_ble_eq_true rfl, Nat.le_of_ble_eq_true rfl⟩) hS (fun q _ h => hFc q h) hFc (fun za t H1 locs ht hvm hw hB hz1 hk1 hS => ?_)
  obtain ⟨hP1, hD1⟩ := hB
  rw [ht] at hP1
  obtain ⟨hP, hD⟩ := va_join (wr := []) (w1 := [(x0, .inr (4, [.ref (za 0), .ref (za 1), .ref (za 2), .ref (za 3)])), ((za 0), .inr (3, [.ref (za 4), .ref (za 5), .ref (za 6), .ref (za 7), .ref (za 8)])), ((za 1), .inr (2, [.ref (za 9), .ref (za 10)])), ((za 2), .inr (0, [.int 0, .ref (za 11), .ref (za 12), .ref (za 13), .ref (za 14), .ref (za 15), .ref (za 16), .ref (za 17), .ref (za 18), .ref (za 19), .ref (za 20)])), ((za 3), .inr (1, [.int 0, .ref (za 21), .ref (za 22), .ref (za 23), .ref (za 24), .ref (za 25), .ref (za 26)])), ((za 4), .inl (cA, 8, .inl (fillG 8 (200 : Int32) (fun _ => 0)))), ((za 5), .inl (cA, 8, .inl (fillG 8 (600 : Int32) (fun _ => 0)))), ((za 6), .inl (cA, 8, .inl (fillG 8 (1 : Int32) (fun _ => 0)))), ((za 7), .inl (cA, 8, .inl (fillG 8 (2 : Int32) (fun _ => 0)))), ((za 8), .inl (cA, 256, .inl (fillG 256 (1 : Int32) (fun _ => 0)))), ((za 9), .inl (cA, 8, .inl (fun _ => 0))), ((za 10), .inl (cA, 64, .inl (fun _ => 0))), ((za 11), .inl (cA, 121, .inl (fun _ => 0))), ((za 12), .inl (cA, 121, .inl (fun _ => 0))), ((za 13), .inl (cA, 121, .inl (fun _ => 0))), ((za 14), .inl (cA, 121, .inl (fun _ => 0))), ((za 15), .inl (cA, 121, .inl (fun _ => 0))), ((za 16), .inl (cA, 121, .inl (fun _ => 0))), ((za 17), .inl (cA, 121, .inl (fun _ => 0))), ((za 18), .inl (cA, 121, .inl (fun _ => 0))), ((za 19), .inl (cA, 121, .inl (fun _ => 0))), ((za 20), .inl (cA, 121, .inl (fun _ => 0))), ((za 21), .inl (cA, 60, .inl (fun _ => 0))), ((za 22), .inl (cA, 60, .inl (fun _ => 0))), ((za 23), .inl (cA, 60, .inl (fun _ => 0))), ((za 24), .inl (cA, 60, .inl (fun _ => 0))), ((za 25), .inl (cA, 60, .inl (fun _ => 0))), ((za 26), .inl (cA, 60, .inl (fun _ => 0)))]) hP hD [0] [] rfl rfl (by decide) (by decide) hk1 hFc hP1 hD1
  generalize H1 = H at hP hS ⊢
  refine W.widen (k := 28) (n := 1959) (Nat.le_of_ble_eq_true rfl) (Nat.le_of_ble_eq_true rfl) ?_
  obtain ⟨a, ea⟩ : ∃ a : Nat → Nat, a = fun j => match j with | 0 => x0 | j + 1 => za j := ⟨_, rfl⟩
  have hP : va_P D vwCl (cjW a cA cj0) H := by rw [ea]; exact hP
  have hD : va_D (fun q : Nat => s.heap.size ≤ q) (cjW a cA cj0) := by rw [ea]; exact hD
  have hx0 : x0 = a 0 := by rw [ea]
  rw [hx0]
  clear hx0
  refine lv_astore_n (lv' := [(1, .ref (a 0)), (0, .ref b)]) hx hb dL_law_7 rfl hl (by decide) rfl (fun ls hl => ?_)
  refine va_new (ci := 5) (fs := [.int 0, .null, .null, .null, .null, .null, .null, .null, .int 0, .int 0, .null, .null, .null, .null, .null, .null, .null, .null, .null, .null, .null, .null, .null, .int 0]) (C := RX6) (T := TX6) (N := 24) hx hb hts igX6 tyX6 tyX6_ok hown (hts _ kt_597) (hts _ kt_598) (hts _ kt_7) hK hP hD hS hA rfl (by decide) (Nat.le_of_ble_eq_true rfl) (Nat.le_of_ble_eq_true rfl) dL_law_8 (fun y0 H hP hD hS => ?_)
  refine W.widen (k := 29) (n := 1983) (Nat.le_of_ble_eq_true rfl) (Nat.le_of_ble_eq_true rfl) ?_
  refine lv_dup hx hb dL_law_11 rfl ?_
  have hP : va_P D vwCl (cjW a cA cj0 ++ [(y0, .inr (5, [.int 0, .null, .null, .null, .null, .null, .null, .null, .int 0, .int 0, .null, .null, .null, .null, .null, .null, .null, .null, .null, .null, .null, .null, .null, .int 0]))]) H := hP
  have hD : va_D (fun q : Nat => s.heap.size ≤ q) (cjW a cA cj0 ++ [(y0, .inr (5, [.int 0, .null, .null, .null, .null, .null, .null, .null, .int 0, .int 0, .null, .null, .null, .null, .null, .null, .null, .null, .null, .null, .null, .null, .null, .int 0]))]) := hD
  have hPc := hP.sub (ws' := [(y0, .inr (5, [.int 0, .null, .null, .null, .null, .null, .null, .null, .int 0, .int 0, .null, .null, .null, .null, .null, .null, .null, .null, .null, .null, .null, .null, .null, .int 0]))]) [28] rfl
  have hDc := hD.sub (ws' := [(y0, .inr (5, [.int 0, .null, .null, .null, .null, .null, .null, .null, .int 0, .int 0, .null, .null, .null, .null, .null, .null, .null, .null, .null, .null, .null, .null, .null, .int 0]))]) [28] (by decide) rfl
  have hFc := va_free (wc := [(y0, .inr (5, [.int 0, .null, .null, .null, .null, .null, .null, .null, .int 0, .int 0, .null, .null, .null, .null, .null, .null, .null, .null, .null, .null, .null, .null, .null, .int 0]))]) hD hS hA [28] rfl
  refine va_callv (va_runI (As := []) (rest := [.ref y0]) ⟨hx, hb, hml, hown, hts⟩ (iX6_init (l := l) (D := D) (cA := cA) (h0 := y0) (sz := H.size)) (cwI 0 hts (gT_good wxX6_init_in) rfl rfl rfl (hts _ kt_7) (hts _ kt_599) (hts _ kt_600) rfl (by decide +kernel) ⟨Nat.le_of_ble_eq_true rfl, Nat.le_of_ble_eq_true rfl⟩) ⟨gi_blind, fun U hU hW => ⟨rfl, by rw [hU], by rw [hU]; exact hPc, va_K.moved hW.alike hK, hDc.weaken (fun _ _ _ _ => trivial)⟩⟩ rfl rfl hl.1 rfl (lv_room (Nat.le_of_ble_eq_true rfl)) dL_law_12 ⟨Nat.le_of_ble_eq_true rfl, Nat.le_of_ble_eq_true rfl⟩) hS (fun q _ h => hFc q h) hFc (fun zb t H1 locs ht hvm hw hB hz1 hk1 hS => ?_)
  obtain ⟨hP1, hD1⟩ := hB
  rw [ht] at hP1
  obtain ⟨hP, hD⟩ := va_join (wr := cjW a cA cj0) (w1 := [(y0, .inr (5, [.int 0, .ref (zb 0), .ref (zb 1), .ref (zb 2), .ref (zb 3), .ref (zb 4), .ref (zb 5), .ref (zb 6), .int 0, .int 0, .ref (zb 7), .ref (zb 8), .ref (zb 9), .ref (zb 10), .ref (zb 11), .ref (zb 12), .ref (zb 13), .ref (zb 14), .ref (zb 15), .ref (zb 16), .ref (zb 17), .ref (zb 18), .ref (zb 19), .int 0])), ((zb 0), .inl (cA, 8, .inl (upd (upd (upd (upd (upd (upd (upd (upd (fun _ => 0) 0 200) 1 200) 2 200) 3 200) 4 200) 5 200) 6 200) 7 200))), ((zb 1), .inl (cA, 8, .inl (upd (upd (upd (upd (upd (upd (upd (upd (fun _ => 0) 0 600) 1 600) 2 600) 3 600) 4 600) 5 600) 6 600) 7 600))), ((zb 2), .inl (cA, 8, .inl (upd (upd (upd (upd (upd (upd (upd (upd (fun _ => 0) 0 1) 1 1) 2 1) 3 1) 4 1) 5 1) 6 1) 7 1))), ((zb 3), .inl (cA, 8, .inl (upd (upd (upd (upd (upd (upd (upd (upd (fun _ => 0) 0 2) 1 2) 2 2) 3 2) 4 2) 5 2) 6 2) 7 2))), ((zb 4), .inl (cA, 256, .inl (fillG 256 1 (fun _ => 0)))), ((zb 5), .inl (cA, 8, .inl (fun _ => 0))), ((zb 6), .inl (cA, 64, .inl (fun _ => 0))), ((zb 7), .inl (cA, 120, .inl (fun _ => 0))), ((zb 8), .inl (cA, 120, .inl (fun _ => 0))), ((zb 9), .inl (cA, 120, .inl (fun _ => 0))), ((zb 10), .inl (cA, 120, .inl (fun _ => 0))), ((zb 11), .inl (cA, 120, .inl (fun _ => 0))), ((zb 12), .inl (cA, 120, .inl (fun _ => 0))), ((zb 13), .inl (cA, 120, .inl (fun _ => 0))), ((zb 14), .inl (cA, 120, .inl (fun _ => 0))), ((zb 15), .inl (cA, 120, .inl (fun _ => 0))), ((zb 16), .inl (cA, 60, .inl (fun _ => 0))), ((zb 17), .inl (cA, 60, .inl (fun _ => 0))), ((zb 18), .inl (cA, 60, .inl (fun _ => 0))), ((zb 19), .inl (cA, 60, .inl (fun _ => 0)))]) hP hD [28] [0, 1, 2, 3, 4, 5, 6, 7, 8, 9, 10, 11, 12, 13, 14, 15, 16, 17, 18, 19, 20, 21, 22, 23, 24, 25, 26, 27] rfl rfl (by decide) (by decide) hk1 hFc hP1 hD1
  generalize H1 = H at hP hS ⊢
  refine W.widen (k := 49) (n := 3663) (Nat.le_of_ble_eq_true rfl) (Nat.le_of_ble_eq_true rfl) ?_
  obtain ⟨b', eb⟩ : ∃ a : Nat → Nat, a = fun j => match j with | 0 => y0 | j + 1 => zb j := ⟨_, rfl⟩
  have hP : va_P D vwCl (cjW a cA cj0 ++ mdW b' cA md0) H := by rw [eb]; exact hP
  have hD : va_D (fun q : Nat => s.heap.size ≤ q) (cjW a cA cj0 ++ mdW b' cA md0) := by rw [eb]; exact hD
  have hy0 : y0 = b' 0 := by rw [eb]
  rw [hy0]
  clear hy0
  refine lv_astore_n (lv' := [(2, .ref (b' 0)), (1, .ref (a 0)), (0, .ref b)]) hx hb dL_law_15 rfl hl (by decide) rfl (fun ls hl => ?_)
  refine lv_iconst (v := (1 : Int32)) hx hb dL_law_16 (by decide) ?_
  refine va_newa (atype := .long) (N' := 1) (a0 := (1, .inr (.inl (fun _ => 0)))) (ty := .long) (n := (1 : Int32)) hx hb (hts _ kt_853) rfl hK hP hD hS hA (fun _ => rfl) (by decide) (by decide) (by decide) (Nat.le_of_ble_eq_true rfl) (Nat.le_of_ble_eq_true rfl) dL_law_17 (fun ao cL H hK hP hD hS => ?_)
  refine W.widen (k := 50) (n := 3664) (Nat.le_of_ble_eq_true rfl) (Nat.le_of_ble_eq_true rfl) ?_
  have hP : va_P D vwCl (lawW a b' ao cA cL ((cj0, fun _ => 0), md0)) H := hP.sub (ws' := lawW a b' ao cA cL ((cj0, fun _ => 0), md0)) [0, 1, 2, 3, 4, 5, 6, 7, 8, 9, 10, 11, 12, 13, 14, 15, 16, 17, 18, 19, 20, 21, 22, 23, 24, 25, 26, 27, 49, 28, 29, 30, 31, 32, 33, 34, 35, 36, 37, 38, 39, 40, 41, 42, 43, 44, 45, 46, 47, 48] rfl
  have hD : va_D (fun q : Nat => s.heap.size ≤ q) (lawW a b' ao cA cL ((cj0, fun _ => 0), md0)) := hD.sub (ws' := lawW a b' ao cA cL ((cj0, fun _ => 0), md0)) [0, 1, 2, 3, 4, 5, 6, 7, 8, 9, 10, 11, 12, 13, 14, 15, 16, 17, 18, 19, 20, 21, 22, 23, 24, 25, 26, 27, 49, 28, 29, 30, 31, 32, 33, 34, 35, 36, 37, 38, 39, 40, 41, 42, 43, 44, 45, 46, 47, 48] (by decide) rfl
  have hK : va_K D vwCl [(cA, .int), (cL, .long)] s := hK
  refine lv_astore_n (lv' := [(3, .ref ao), (2, .ref (b' 0)), (1, .ref (a 0)), (0, .ref b)]) hx hb dL_law_19 rfl hl (by decide) rfl (fun ls hl => ?_)
  refine lv_iconst (v := (0 : Int32)) hx hb dL_law_20 (by decide) ?_
  refine lv_istore (lv' := [(4, .int (0 : Int32)), (3, .ref ao), (2, .ref (b' 0)), (1, .ref (a 0)), (0, .ref b)]) hx hb dL_law_21 hl (by decide) rfl (fun ls hl => ?_)
  have hN : (lawA a b' ao).Nodup := gw_N hD
  have hge : ∀ q ∈ lawA a b' ao, s.heap.size ≤ q := gw_ge hD
  have C1 : law_C D a b' ao cA cL s := ⟨hK, hN, hge, gX_0 hts0 hgv (hKn4.2.1) (fun q h1 h2 => h2.elim (fun z => absurd (hge q z) (Nat.not_le.mpr h1)) (fun z => absurd z (Nat.not_le.mpr h1)))⟩
  have hS : va_S (rg (lawA a b' ao) s.heap.size) s.heap H locs := ⟨hS.1, fun q h1 h2 => hS.2.1 q h1 (fun z => h2 (Or.inr z)), fun q hq => Or.inr (hS.2.2 q hq)⟩
  exact law_loop hl9 C0 C1 hL (L / 7 + 1) 0 (0 : Int32) cj0 md0 (fun _ => 0) 50 3664 (by omega) (by omega) rfl Rel_0 (by unfold lawMc; omega) (by unfold lawMs; omega) H locs hP hS ls (lv_sub hl [4, 3, 2, 1, 0] rfl)
