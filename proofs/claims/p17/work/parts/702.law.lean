set_option maxHeartbeats 4000000 in
theorem law_k8 {p : Program} {l : Launch} (hl9 : l.stackTraces = false) {e : Env} {s : State} {m : MethodId} {below : List Frame} {meth : Method} {c : Code} {D : va_G} {a b : Nat → Nat} {ao sb L : Nat} {cA cL : ClassId} {xs : Nat → Int32} (C0 : lw_At p s m meth c sb L xs) (C1 : law_C D a b ao cA cL s) {i : Nat} {x4 : Int32} (hi : i + 7 ≤ L) (hL : L ≤ lawN) (ex4 : x4 = nI i) {u w : g_S} {f : Nat → Int64} (hR : Rel u w) {cells slots : Nat} (hc9 : cells + 1 ≤ room_1.cells) (hs9 : slots + 6 ≤ room_1.slots) {H : Heap} {locs : List Loc} (hP : va_P D vwCl (lawW a b ao cA cL ((u, f), w)) H) (hS : va_S (rg (lawA a b ao) s.heap.size) s.heap H locs) {ls : Array Slot} (hl : lv_has ls 7 [(0, .ref sb), (1, .ref (a 0)), (2, .ref (b 0)), (3, .ref ao), (4, .int x4)])
    (kk : ∀ (u w : g_S) (f : Nat → Int64) (H : Heap) (locs : List Loc) (ls : Array Slot), Rel u w → va_P D vwCl (lawW a b ao cA cL ((u, f), w)) H → va_S (rg (lawA a b ao) s.heap.size) s.heap H locs → lv_has ls 7 [(0, .ref sb), (1, .ref (a 0)), (2, .ref (b 0)), (3, .ref ao), (4, .int x4)] → W p l e room_1 s m #[Value.ref sb] below meth c H locs (cells + 1) (slots + 6) (lw_Z below #[Value.ref sb] s) (F0 m 921 ls [])) : W p l e room_1 s m #[Value.ref sb] below meth c H locs cells slots (lw_Z below #[Value.ref sb] s) (F0 m 567 ls []) := by
  obtain ⟨hx, hb, hr, hml, hown, hts0, hX, hbl, hlocks, hgv⟩ := id C0
  obtain ⟨hK, hn, hge, hgX⟩ := id C1
  have hts : ∀ w ∈ gT, w.before #[Value.ref sb] s = true := fun w h => hts0 w (List.mem_filter.mp h).1
  have hbA : ¬ rg (lawA a b ao) s.heap.size sb := law_nb hge hbl
  have hL31 : L < 2 ^ 31 := Nat.lt_of_le_of_lt hL (by decide)
  obtain ⟨rv, rz, h1, hc, h2, hR'⟩ := step_watch hR ((xs (x4 + (1 : Int32)).toNatClampNeg)) ((xs (x4 + (2 : Int32)).toNatClampNeg)) ((xs (x4 + (3 : Int32)).toNatClampNeg)) ((xs (x4 + (4 : Int32)).toNatClampNeg))
  refine lv_aload_n hx hb dL_law_567 rfl (lv_at hl 1 rfl) ?_
  refine lv_aload_n hx hb dL_law_568 rfl (lv_at hl 0 rfl) ?_
  refine lv_iload hx hb dL_law_569 (lv_at hl 4 rfl) ?_
  refine lv_iconst (v := (1 : Int32)) hx hb dL_law_571 (by decide) ?_
  refine lv_iadd hx hb dL_law_572 ?_
  refine va_sld hx hb hX hbl hbA hS (law_ix (k := 1) ex4 (by omega) hL31) dL_law_573 ?_
  refine lv_aload_n hx hb dL_law_574 rfl (lv_at hl 0 rfl) ?_
  refine lv_iload hx hb dL_law_575 (lv_at hl 4 rfl) ?_
  refine lv_iconst (v := (2 : Int32)) hx hb dL_law_577 (by decide) ?_
  refine lv_iadd hx hb dL_law_578 ?_
  refine va_sld hx hb hX hbl hbA hS (law_ix (k := 2) ex4 (by omega) hL31) dL_law_579 ?_
  refine lv_aload_n hx hb dL_law_580 rfl (lv_at hl 0 rfl) ?_
  refine lv_iload hx hb dL_law_581 (lv_at hl 4 rfl) ?_
  refine lv_iconst (v := (3 : Int32)) hx hb dL_law_583 (by decide) ?_
  refine lv_iadd hx hb dL_law_584 ?_
  refine va_sld hx hb hX hbl hbA hS (law_ix (k := 3) ex4 (by omega) hL31) dL_law_585 ?_
  refine lv_aload_n hx hb dL_law_586 rfl (lv_at hl 0 rfl) ?_
  refine lv_iload hx hb dL_law_587 (lv_at hl 4 rfl) ?_
  refine lv_iconst (v := (4 : Int32)) hx hb dL_law_589 (by decide) ?_
  refine lv_iadd hx hb dL_law_590 ?_
  refine va_sld hx hb hX hbl hbA hS (law_ix (k := 4) ex4 (by omega) hL31) dL_law_591 ?_
  refine gs_ki (w2 := lawW a b ao cA cL ((rv.2, f), w)) hS law_le1 (vx_runSW (hh := [(0, 9, 12, 13), (0, 9, 16, 15), (0, 9, 20, 42)]) (As := [.ref (a 0), .int (xs (x4 + (1 : Int32)).toNatClampNeg), .int (xs (x4 + (2 : Int32)).toNatClampNeg), .int (xs (x4 + (3 : Int32)).toNatClampNeg), .int (xs (x4 + (4 : Int32)).toNatClampNeg)]) (rest := []) ⟨hx, hb, hml, hown, hts⟩ (mL_watch hl9 (D := D) (a := a) (ao := ao) (cA := cA) (cL := cL) (u := u) (f := f) h1 hc) (vx_cwSW 5 hts glaw_110 rfl rfl rfl (by decide +kernel) ⟨Nat.le_of_ble_eq_true rfl, Nat.le_of_ble_eq_true rfl⟩) (gs_preS gX_ok hK (law_n1 hn) hgX (gs_left hP) hS law_le1 [.ref (a 0), .int (xs (x4 + (1 : Int32)).toNatClampNeg), .int (xs (x4 + (2 : Int32)).toNatClampNeg), .int (xs (x4 + (3 : Int32)).toNatClampNeg), .int (xs (x4 + (4 : Int32)).toNatClampNeg)]) rfl rfl hl.1 rfl (lv_room (Nat.le_of_ble_eq_true rfl)) dL_law_592 ⟨by show cells + 1 ≤ _; omega, by show slots + 6 ≤ _; omega⟩) (fun H1 h hk => gs_app h (gs_kept rfl (law_d1 hn) (gs_right hP) hk)) (fun H locs hP hS => ?_)
  refine lv_istore (lv' := [(5, .int (lwc [1, 2, 3] rv.1)), (0, .ref sb), (1, .ref (a 0)), (2, .ref (b 0)), (3, .ref ao), (4, .int x4)]) hx hb dL_law_595 hl (by decide) rfl (fun ls hl => ?_)
  refine lv_aload_n hx hb dL_law_597 rfl (lv_at hl 3 rfl) ?_
  refine lv_aload_n hx hb dL_law_598 rfl (lv_at hl 1 rfl) ?_
  refine lv_iload hx hb dL_law_599 (lv_at hl 5 rfl) ?_
  refine lv_iconst (v := (1 : Int32)) hx hb dL_law_601 (by decide) ?_
  refine lv_iadd hx hb dL_law_602 ?_
  refine va_sld hx hb hX hbl hbA hS (law_ix (k := 1) ex4 (by omega) hL31) dL_law_603 ?_
  refine lv_aload_n hx hb dL_law_604 rfl (lv_at hl 1 rfl) ?_
  refine lv_iload hx hb dL_law_605 (lv_at hl 5 rfl) ?_
  refine lv_iconst (v := (2 : Int32)) hx hb dL_law_607 (by decide) ?_
  refine lv_iadd hx hb dL_law_608 ?_
  refine va_sld hx hb hX hbl hbA hS (law_ix (k := 2) ex4 (by omega) hL31) dL_law_609 ?_
  refine lv_aload_n hx hb dL_law_610 rfl (lv_at hl 1 rfl) ?_
  refine lv_iload hx hb dL_law_611 (lv_at hl 5 rfl) ?_
  refine lv_iconst (v := (3 : Int32)) hx hb dL_law_613 (by decide) ?_
  refine lv_iadd hx hb dL_law_614 ?_
  refine va_sld hx hb hX hbl hbA hS (law_ix (k := 3) ex4 (by omega) hL31) dL_law_615 ?_
  refine lv_aload_n hx hb dL_law_616 rfl (lv_at hl 1 rfl) ?_
  refine lv_iload hx hb dL_law_617 (lv_at hl 5 rfl) ?_
  refine lv_iconst (v := (4 : Int32)) hx hb dL_law_619 (by decide) ?_
  refine lv_iadd hx hb dL_law_620 ?_
  refine va_sld hx hb hX hbl hbA hS (law_ix (k := 4) ex4 (by omega) hL31) dL_law_621 ?_
  refine gs_kv (w2 := lawW a b ao cA cL ((rv.2, f), rz)) hS law_le2 (va_runV (As := [.int (xs (x4 + (1 : Int32)).toNatClampNeg), .int (xs (x4 + (2 : Int32)).toNatClampNeg), .int (xs (x4 + (3 : Int32)).toNatClampNeg), .int (xs (x4 + (4 : Int32)).toNatClampNeg)]) (rest := []) ⟨hx, hb, hml, hown, hts⟩ (mX6_watch (D := D) (a := b) (cA := cA) (u := w) h2) (cwV 4 hts glaw_113 rfl rfl rfl (by decide +kernel) ⟨Nat.le_of_ble_eq_true rfl, Nat.le_of_ble_eq_true rfl⟩) (gs_preV (q0 := 0) (ci := 5) gY_ok (hK.sub (tys' := [(cA, .int)]) [0] rfl) (law_n2 hn) trivial (gs_right hP) hS law_le2 [.int (xs (x4 + (1 : Int32)).toNatClampNeg), .int (xs (x4 + (2 : Int32)).toNatClampNeg), .int (xs (x4 + (3 : Int32)).toNatClampNeg), .int (xs (x4 + (4 : Int32)).toNatClampNeg)] rfl rfl) rfl rfl hl.1 rfl (lv_room (Nat.le_of_ble_eq_true rfl)) dL_law_622 ⟨by omega, by omega⟩) (fun H1 h hk => gs_app (gs_kept rfl (law_d2 hn) (gs_left hP) hk) h) (fun H locs hP hS => ?_)
  refine lv_goto (tgt := 921) hx hb dL_law_625 (by decide) ?_
  refine W.widen (k := cells + 1) (n := slots + 6) (by omega) (by omega) ?_
  exact kk rv.2 rz f _ _ _ hR' hP hS (lv_sub hl [1, 2, 3, 4, 5] rfl)
set_option maxHeartbeats 4000000 in
theorem law_k9 {p : Program} {l : Launch} (hl9 : l.stackTraces = false) {e : Env} {s : State} {m : MethodId} {below : List Frame} {meth : Method} {c : Code} {D : va_G} {a b : Nat → Nat} {ao sb L : Nat} {cA cL : ClassId} {xs : Nat → Int32} (C0 : lw_At p s m meth c sb L xs) (C1 : law_C D a b ao cA cL s) {i : Nat} {x4 : Int32} (hi : i + 7 ≤ L) (hL : L ≤ lawN) (ex4 : x4 = nI i) {u w : g_S} {f : Nat → Int64} (hR : Rel u w) {cells slots : Nat} (hc9 : cells + 1 ≤ room_1.cells) (hs9 : slots + 6 ≤ room_1.slots) {H : Heap} {locs : List Loc} (hP : va_P D vwCl (lawW a b ao cA cL ((u, f), w)) H) (hS : va_S (rg (lawA a b ao) s.heap.size) s.heap H locs) {ls : Array Slot} (hl : lv_has ls 7 [(0, .ref sb), (1, .ref (a 0)), (2, .ref (b 0)), (3, .ref ao), (4, .int x4)])
    (kk : ∀ (u w : g_S) (f : Nat → Int64) (H : Heap) (locs : List Loc) (ls : Array Slot), Rel u w → va_P D vwCl (lawW a b ao cA cL ((u, f), w)) H → va_S (rg (lawA a b ao) s.heap.size) s.heap H locs → lv_has ls 7 [(0, .ref sb), (1, .ref (a 0)), (2, .ref (b 0)), (3, .ref ao), (4, .int x4)] → W p l e room_1 s m #[Value.ref sb] below meth c H locs (cells + 1) (slots + 6) (lw_Z below #[Value.ref sb] s) (F0 m 921 ls [])) : W p l e room_1 s m #[Value.ref sb] below meth c H locs cells slots (lw_Z below #[Value.ref sb] s) (F0 m 628 ls []) := by
  obtain ⟨hx, hb, hr, hml, hown, hts0, hX, hbl, hlocks, hgv⟩ := id C0
  obtain ⟨hK, hn, hge, hgX⟩ := id C1
  have hts : ∀ w ∈ gT, w.before #[Value.ref sb] s = true := fun w h => hts0 w (List.mem_filter.mp h).1
  have hbA : ¬ rg (lawA a b ao) s.heap.size sb := law_nb hge hbl
  have hL31 : L < 2 ^ 31 := Nat.lt_of_le_of_lt hL (by decide)
  obtain ⟨rv, rz, h1, hc, h2, hR'⟩ := step_state hR ((xs (x4 + (1 : Int32)).toNatClampNeg)) ((xs (x4 + (2 : Int32)).toNatClampNeg))
  refine lv_aload_n hx hb dL_law_628 rfl (lv_at hl 1 rfl) ?_
  refine lv_aload_n hx hb dL_law_629 rfl (lv_at hl 0 rfl) ?_
  refine lv_iload hx hb dL_law_630 (lv_at hl 4 rfl) ?_
  refine lv_iconst (v := (1 : Int32)) hx hb dL_law_632 (by decide) ?_
  refine lv_iadd hx hb dL_law_633 ?_
  refine va_sld hx hb hX hbl hbA hS (law_ix (k := 1) ex4 (by omega) hL31) dL_law_634 ?_
  refine lv_aload_n hx hb dL_law_635 rfl (lv_at hl 0 rfl) ?_
  refine lv_iload hx hb dL_law_636 (lv_at hl 4 rfl) ?_
  refine lv_iconst (v := (2 : Int32)) hx hb dL_law_638 (by decide) ?_
  refine lv_iadd hx hb dL_law_639 ?_
  refine va_sld hx hb hX hbl hbA hS (law_ix (k := 2) ex4 (by omega) hL31) dL_law_640 ?_
  refine gs_ki (w2 := lawW a b ao cA cL ((rv.2, f), w)) hS law_le1 (vx_runSW (hh := [(0, 6, 9, 13), (0, 6, 12, 15), (0, 6, 15, 42)]) (As := [.ref (a 0), .int (xs (x4 + (1 : Int32)).toNatClampNeg), .int (xs (x4 + (2 : Int32)).toNatClampNeg)]) (rest := []) ⟨hx, hb, hml, hown, hts⟩ (mL_state hl9 (D := D) (a := a) (ao := ao) (cA := cA) (cL := cL) (u := u) (f := f) h1 hc) (vx_cwSW 3 hts glaw_114 rfl rfl rfl (by decide +kernel) ⟨Nat.le_of_ble_eq_true rfl, Nat.le_of_ble_eq_true rfl⟩) (gs_preS gX_ok hK (law_n1 hn) hgX (gs_left hP) hS law_le1 [.ref (a 0), .int (xs (x4 + (1 : Int32)).toNatClampNeg), .int (xs (x4 + (2 : Int32)).toNatClampNeg)]) rfl rfl hl.1 rfl (lv_room (Nat.le_of_ble_eq_true rfl)) dL_law_641 ⟨by show cells + 1 ≤ _; omega, by show slots + 6 ≤ _; omega⟩) (fun H1 h hk => gs_app h (gs_kept rfl (law_d1 hn) (gs_right hP) hk)) (fun H locs hP hS => ?_)
  refine lv_istore (lv' := [(5, .int (lwc [1, 2, 3] rv.1)), (0, .ref sb), (1, .ref (a 0)), (2, .ref (b 0)), (3, .ref ao), (4, .int x4)]) hx hb dL_law_644 hl (by decide) rfl (fun ls hl => ?_)
  refine lv_aload_n hx hb dL_law_646 rfl (lv_at hl 3 rfl) ?_
  refine lv_aload_n hx hb dL_law_647 rfl (lv_at hl 1 rfl) ?_
  refine lv_iload hx hb dL_law_648 (lv_at hl 5 rfl) ?_
  refine lv_iconst (v := (1 : Int32)) hx hb dL_law_650 (by decide) ?_
  refine lv_iadd hx hb dL_law_651 ?_
  refine va_sld hx hb hX hbl hbA hS (law_ix (k := 1) ex4 (by omega) hL31) dL_law_652 ?_
  refine lv_aload_n hx hb dL_law_653 rfl (lv_at hl 1 rfl) ?_
  refine lv_iload hx hb dL_law_654 (lv_at hl 5 rfl) ?_
  refine lv_iconst (v := (2 : Int32)) hx hb dL_law_656 (by decide) ?_
  refine lv_iadd hx hb dL_law_657 ?_
  refine va_sld hx hb hX hbl hbA hS (law_ix (k := 2) ex4 (by omega) hL31) dL_law_658 ?_
  refine gs_kv (w2 := lawW a b ao cA cL ((rv.2, f), rz)) hS law_le2 (va_runV (As := [.int (xs (x4 + (1 : Int32)).toNatClampNeg), .int (xs (x4 + (2 : Int32)).toNatClampNeg)]) (rest := []) ⟨hx, hb, hml, hown, hts⟩ (mX6_state (D := D) (a := b) (cA := cA) (u := w) h2) (cwV 2 hts glaw_116 rfl rfl rfl (by decide +kernel) ⟨Nat.le_of_ble_eq_true rfl, Nat.le_of_ble_eq_true rfl⟩) (gs_preV (q0 := 0) (ci := 5) gY_ok (hK.sub (tys' := [(cA, .int)]) [0] rfl) (law_n2 hn) trivial (gs_right hP) hS law_le2 [.int (xs (x4 + (1 : Int32)).toNatClampNeg), .int (xs (x4 + (2 : Int32)).toNatClampNeg)] rfl rfl) rfl rfl hl.1 rfl (lv_room (Nat.le_of_ble_eq_true rfl)) dL_law_659 ⟨by omega, by omega⟩) (fun H1 h hk => gs_app (gs_kept rfl (law_d2 hn) (gs_left hP) hk) h) (fun H locs hP hS => ?_)
  refine lv_goto (tgt := 921) hx hb dL_law_662 (by decide) ?_
  refine W.widen (k := cells + 1) (n := slots + 6) (by omega) (by omega) ?_
  exact kk rv.2 rz f _ _ _ hR' hP hS (lv_sub hl [1, 2, 3, 4, 5] rfl)
set_option maxHeartbeats 4000000 in
theorem law_k10 {p : Program} {l : Launch} (hl9 : l.stackTraces = false) {e : Env} {s : State} {m : MethodId} {below : List Frame} {meth : Method} {c : Code} {D : va_G} {a b : Nat → Nat} {ao sb L : Nat} {cA cL : ClassId} {xs : Nat → Int32} (C0 : lw_At p s m meth c sb L xs) (C1 : law_C D a b ao cA cL s) {i : Nat} {x4 : Int32} (hi : i + 7 ≤ L) (hL : L ≤ lawN) (ex4 : x4 = nI i) {u w : g_S} {f : Nat → Int64} (hR : Rel u w) {cells slots : Nat} (hc9 : cells + 1 ≤ room_1.cells) (hs9 : slots + 6 ≤ room_1.slots) {H : Heap} {locs : List Loc} (hP : va_P D vwCl (lawW a b ao cA cL ((u, f), w)) H) (hS : va_S (rg (lawA a b ao) s.heap.size) s.heap H locs) {ls : Array Slot} (hl : lv_has ls 7 [(0, .ref sb), (1, .ref (a 0)), (2, .ref (b 0)), (3, .ref ao), (4, .int x4)])
    (kk : ∀ (u w : g_S) (f : Nat → Int64) (H : Heap) (locs : List Loc) (ls : Array Slot), Rel u w → va_P D vwCl (lawW a b ao cA cL ((u, f), w)) H → va_S (rg (lawA a b ao) s.heap.size) s.heap H locs → lv_has ls 7 [(0, .ref sb), (1, .ref (a 0)), (2, .ref (b 0)), (3, .ref ao), (4, .int x4)] → W p l e room_1 s m #[Value.ref sb] below meth c H locs (cells + 1) (slots + 6) (lw_Z below #[Value.ref sb] s) (F0 m 921 ls [])) : W p l e room_1 s m #[Value.ref sb] below meth c H locs cells slots (lw_Z below #[Value.ref sb] s) (F0 m 665 ls []) := by
  obtain ⟨hx, hb, hr, hml, hown, hts0, hX, hbl, hlocks, hgv⟩ := id C0
  obtain ⟨hK, hn, hge, hgX⟩ := id C1
  have hts : ∀ w ∈ gT, w.before #[Value.ref sb] s = true := fun w h => hts0 w (List.mem_filter.mp h).1
  have hbA : ¬ rg (lawA a b ao) s.heap.size sb := law_nb hge hbl
  have hL31 : L < 2 ^ 31 := Nat.lt_of_le_of_lt hL (by decide)
  obtain ⟨rv, rz, h1, hc, h2, hR'⟩ := step_share hR ((xs (x4 + (1 : Int32)).toNatClampNeg)) ((xs (x4 + (2 : Int32)).toNatClampNeg))
  refine lv_aload_n hx hb dL_law_665 rfl (lv_at hl 1 rfl) ?_
  refine lv_aload_n hx hb dL_law_666 rfl (lv_at hl 0 rfl) ?_
  refine lv_iload hx hb dL_law_667 (lv_at hl 4 rfl) ?_
  refine lv_iconst (v := (1 : Int32)) hx hb dL_law_669 (by decide) ?_
  refine lv_iadd hx hb dL_law_670 ?_
  refine va_sld hx hb hX hbl hbA hS (law_ix (k := 1) ex4 (by omega) hL31) dL_law_671 ?_
  refine lv_aload_n hx hb dL_law_672 rfl (lv_at hl 0 rfl) ?_
  refine lv_iload hx hb dL_law_673 (lv_at hl 4 rfl) ?_
  refine lv_iconst (v := (2 : Int32)) hx hb dL_law_675 (by decide) ?_
  refine lv_iadd hx hb dL_law_676 ?_
  refine va_sld hx hb hX hbl hbA hS (law_ix (k := 2) ex4 (by omega) hL31) dL_law_677 ?_
  refine lv_aload_n hx hb dL_law_678 rfl (lv_at hl 3 rfl) ?_
  refine gs_ki (w2 := lawW a b ao cA cL ((u, (if rv.1 = 0 then vp_updL f 0 (Int32.toInt64 rv.2) else f)), w)) hS law_le1 (vx_runSW (hh := [(0, 10, 13, 13), (0, 10, 17, 57)]) (As := [.ref (a 0), .int (xs (x4 + (1 : Int32)).toNatClampNeg), .int (xs (x4 + (2 : Int32)).toNatClampNeg), .ref ao]) (rest := []) ⟨hx, hb, hml, hown, hts⟩ (mL_share hl9 (D := D) (a := a) (ao := ao) (cA := cA) (cL := cL) (u := u) (f := f) h1 hc) (vx_cwSW 4 hts glaw_117 rfl rfl rfl (by decide +kernel) ⟨Nat.le_of_ble_eq_true rfl, Nat.le_of_ble_eq_true rfl⟩) (gs_preS gX_ok hK (law_n1 hn) hgX (gs_left hP) hS law_le1 [.ref (a 0), .int (xs (x4 + (1 : Int32)).toNatClampNeg), .int (xs (x4 + (2 : Int32)).toNatClampNeg), .ref ao]) rfl rfl hl.1 rfl (lv_room (Nat.le_of_ble_eq_true rfl)) dL_law_679 ⟨by show cells + 1 ≤ _; omega, by show slots + 6 ≤ _; omega⟩) (fun H1 h hk => gs_app h (gs_kept rfl (law_d1 hn) (gs_right hP) hk)) (fun H locs hP hS => ?_)
  refine lv_istore (lv' := [(5, .int (lwc [1, 5] rv.1)), (0, .ref sb), (1, .ref (a 0)), (2, .ref (b 0)), (3, .ref ao), (4, .int x4)]) hx hb dL_law_682 hl (by decide) rfl (fun ls hl => ?_)
  refine lv_aload_n hx hb dL_law_684 rfl (lv_at hl 3 rfl) ?_
  refine lv_aload_n hx hb dL_law_685 rfl (lv_at hl 1 rfl) ?_
  refine lv_iload hx hb dL_law_686 (lv_at hl 5 rfl) ?_
  refine lv_iconst (v := (1 : Int32)) hx hb dL_law_688 (by decide) ?_
  refine lv_iadd hx hb dL_law_689 ?_
  refine va_sld hx hb hX hbl hbA hS (law_ix (k := 1) ex4 (by omega) hL31) dL_law_690 ?_
  refine lv_aload_n hx hb dL_law_691 rfl (lv_at hl 1 rfl) ?_
  refine lv_iload hx hb dL_law_692 (lv_at hl 5 rfl) ?_
  refine lv_iconst (v := (2 : Int32)) hx hb dL_law_694 (by decide) ?_
  refine lv_iadd hx hb dL_law_695 ?_
  refine va_sld hx hb hX hbl hbA hS (law_ix (k := 2) ex4 (by omega) hL31) dL_law_696 ?_
  refine gs_ki (w2 := lawW a b ao cA cL ((u, (if rv.1 = 0 then vp_updL f 0 (Int32.toInt64 rv.2) else f)), rz.2)) hS law_le2 (va_runV (As := [.int (xs (x4 + (1 : Int32)).toNatClampNeg), .int (xs (x4 + (2 : Int32)).toNatClampNeg)]) (rest := []) ⟨hx, hb, hml, hown, hts⟩ (mX6_share (D := D) (a := b) (cA := cA) (u := w) h2) (cwV 2 hts glaw_119 rfl rfl rfl (by decide +kernel) ⟨Nat.le_of_ble_eq_true rfl, Nat.le_of_ble_eq_true rfl⟩) (gs_preV (q0 := 0) (ci := 5) gY_ok (hK.sub (tys' := [(cA, .int)]) [0] rfl) (law_n2 hn) trivial (gs_right hP) hS law_le2 [.int (xs (x4 + (1 : Int32)).toNatClampNeg), .int (xs (x4 + (2 : Int32)).toNatClampNeg)] rfl rfl) rfl rfl hl.1 rfl (lv_room (Nat.le_of_ble_eq_true rfl)) dL_law_697 ⟨by omega, by omega⟩) (fun H1 h hk => gs_app (gs_kept rfl (law_d2 hn) (gs_left hP) hk) h) (fun H locs hP hS => ?_)
  refine lv_istore (lv' := [(6, .int rz.1), (5, .int (lwc [1, 5] rv.1)), (0, .ref sb), (1, .ref (a 0)), (2, .ref (b 0)), (3, .ref ao), (4, .int x4)]) hx hb dL_law_700 hl (by decide) rfl (fun ls hl => ?_)
  refine lv_goto (tgt := 921) hx hb dL_law_702 (by decide) ?_
  refine W.widen (k := cells + 1) (n := slots + 6) (by omega) (by omega) ?_
  exact kk u rz.2 (if rv.1 = 0 then vp_updL f 0 (Int32.toInt64 rv.2) else f) _ _ _ hR' hP hS (lv_sub hl [2, 3, 4, 5, 6] rfl)
set_option maxHeartbeats 4000000 in
theorem law_k11 {p : Program} {l : Launch} (hl9 : l.stackTraces = false) {e : Env} {s : State} {m : MethodId} {below : List Frame} {meth : Method} {c : Code} {D : va_G} {a b : Nat → Nat} {ao sb L : Nat} {cA cL : ClassId} {xs : Nat → Int32} (C0 : lw_At p s m meth c sb L xs) (C1 : law_C D a b ao cA cL s) {i : Nat} {x4 : Int32} (hi : i + 7 ≤ L) (hL : L ≤ lawN) (ex4 : x4 = nI i) {u w : g_S} {f : Nat → Int64} (hR : Rel u w) {cells slots : Nat} (hc9 : cells + 1 ≤ room_1.cells) (hs9 : slots + 6 ≤ room_1.slots) {H : Heap} {locs : List Loc} (hP : va_P D vwCl (lawW a b ao cA cL ((u, f), w)) H) (hS : va_S (rg (lawA a b ao) s.heap.size) s.heap H locs) {ls : Array Slot} (hl : lv_has ls 7 [(0, .ref sb), (1, .ref (a 0)), (2, .ref (b 0)), (3, .ref ao), (4, .int x4)])
    (kk : ∀ (u w : g_S) (f : Nat → Int64) (H : Heap) (locs : List Loc) (ls : Array Slot), Rel u w → va_P D vwCl (lawW a b ao cA cL ((u, f), w)) H → va_S (rg (lawA a b ao) s.heap.size) s.heap H locs → lv_has ls 7 [(0, .ref sb), (1, .ref (a 0)), (2, .ref (b 0)), (3, .ref ao), (4, .int x4)] → W p l e room_1 s m #[Value.ref sb] below meth c H locs (cells + 1) (slots + 6) (lw_Z below #[Value.ref sb] s) (F0 m 921 ls [])) : W p l e room_1 s m #[Value.ref sb] below meth c H locs cells slots (lw_Z below #[Value.ref sb] s) (F0 m 705 ls []) := by
  obtain ⟨hx, hb, hr, hml, hown, hts0, hX, hbl, hlocks, hgv⟩ := id C0
  obtain ⟨hK, hn, hge, hgX⟩ := id C1
  have hts : ∀ w ∈ gT, w.before #[Value.ref sb] s = true := fun w h => hts0 w (List.mem_filter.mp h).1
  have hbA : ¬ rg (lawA a b ao) s.heap.size sb := law_nb hge hbl
  have hL31 : L < 2 ^ 31 := Nat.lt_of_le_of_lt hL (by decide)
  obtain ⟨rv, rz, h1, hc, h2, hR'⟩ := step_agree hR ((xs (x4 + (1 : Int32)).toNatClampNeg)) ((xs (x4 + (2 : Int32)).toNatClampNeg))
  refine lv_aload_n hx hb dL_law_705 rfl (lv_at hl 1 rfl) ?_
  refine lv_aload_n hx hb dL_law_706 rfl (lv_at hl 0 rfl) ?_
  refine lv_iload hx hb dL_law_707 (lv_at hl 4 rfl) ?_
  refine lv_iconst (v := (1 : Int32)) hx hb dL_law_709 (by decide) ?_
  refine lv_iadd hx hb dL_law_710 ?_
  refine va_sld hx hb hX hbl hbA hS (law_ix (k := 1) ex4 (by omega) hL31) dL_law_711 ?_
  refine lv_aload_n hx hb dL_law_712 rfl (lv_at hl 0 rfl) ?_
  refine lv_iload hx hb dL_law_713 (lv_at hl 4 rfl) ?_
  refine lv_iconst (v := (2 : Int32)) hx hb dL_law_715 (by decide) ?_
  refine lv_iadd hx hb dL_law_716 ?_
  refine va_sld hx hb hX hbl hbA hS (law_ix (k := 2) ex4 (by omega) hL31) dL_law_717 ?_
  refine lv_aload_n hx hb dL_law_718 rfl (lv_at hl 3 rfl) ?_
  refine gs_ki (w2 := lawW a b ao cA cL ((u, (if rv.1 = 0 then vp_updL f 0 (Int32.toInt64 rv.2) else f)), w)) hS law_le1 (vx_runSW (hh := [(0, 10, 13, 13)]) (As := [.ref (a 0), .int (xs (x4 + (1 : Int32)).toNatClampNeg), .int (xs (x4 + (2 : Int32)).toNatClampNeg), .ref ao]) (rest := []) ⟨hx, hb, hml, hown, hts⟩ (mL_agree hl9 (D := D) (a := a) (ao := ao) (cA := cA) (cL := cL) (u := u) (f := f) h1 hc) (vx_cwSW 4 hts glaw_120 rfl rfl rfl (by decide +kernel) ⟨Nat.le_of_ble_eq_true rfl, Nat.le_of_ble_eq_true rfl⟩) (gs_preS gX_ok hK (law_n1 hn) hgX (gs_left hP) hS law_le1 [.ref (a 0), .int (xs (x4 + (1 : Int32)).toNatClampNeg), .int (xs (x4 + (2 : Int32)).toNatClampNeg), .ref ao]) rfl rfl hl.1 rfl (lv_room (Nat.le_of_ble_eq_true rfl)) dL_law_719 ⟨by show cells + 1 ≤ _; omega, by show slots + 6 ≤ _; omega⟩) (fun H1 h hk => gs_app h (gs_kept rfl (law_d1 hn) (gs_right hP) hk)) (fun H locs hP hS => ?_)
  refine lv_istore (lv' := [(5, .int (lwc [1] rv.1)), (0, .ref sb), (1, .ref (a 0)), (2, .ref (b 0)), (3, .ref ao), (4, .int x4)]) hx hb dL_law_722 hl (by decide) rfl (fun ls hl => ?_)
  refine lv_aload_n hx hb dL_law_724 rfl (lv_at hl 3 rfl) ?_
  refine lv_aload_n hx hb dL_law_725 rfl (lv_at hl 1 rfl) ?_
  refine lv_iload hx hb dL_law_726 (lv_at hl 5 rfl) ?_
  refine lv_iconst (v := (1 : Int32)) hx hb dL_law_728 (by decide) ?_
  refine lv_iadd hx hb dL_law_729 ?_
  refine va_sld hx hb hX hbl hbA hS (law_ix (k := 1) ex4 (by omega) hL31) dL_law_730 ?_
  refine lv_aload_n hx hb dL_law_731 rfl (lv_at hl 1 rfl) ?_
  refine lv_iload hx hb dL_law_732 (lv_at hl 5 rfl) ?_
  refine lv_iconst (v := (2 : Int32)) hx hb dL_law_734 (by decide) ?_
  refine lv_iadd hx hb dL_law_735 ?_
  refine va_sld hx hb hX hbl hbA hS (law_ix (k := 2) ex4 (by omega) hL31) dL_law_736 ?_
  refine gs_ki (w2 := lawW a b ao cA cL ((u, (if rv.1 = 0 then vp_updL f 0 (Int32.toInt64 rv.2) else f)), rz.2)) hS law_le2 (va_runV (As := [.int (xs (x4 + (1 : Int32)).toNatClampNeg), .int (xs (x4 + (2 : Int32)).toNatClampNeg)]) (rest := []) ⟨hx, hb, hml, hown, hts⟩ (mX6_agree (D := D) (a := b) (cA := cA) (u := w) h2) (cwV 2 hts glaw_122 rfl rfl rfl (by decide +kernel) ⟨Nat.le_of_ble_eq_true rfl, Nat.le_of_ble_eq_true rfl⟩) (gs_preV (q0 := 0) (ci := 5) gY_ok (hK.sub (tys' := [(cA, .int)]) [0] rfl) (law_n2 hn) trivial (gs_right hP) hS law_le2 [.int (xs (x4 + (1 : Int32)).toNatClampNeg), .int (xs (x4 + (2 : Int32)).toNatClampNeg)] rfl rfl) rfl rfl hl.1 rfl (lv_room (Nat.le_of_ble_eq_true rfl)) dL_law_737 ⟨by omega, by omega⟩) (fun H1 h hk => gs_app (gs_kept rfl (law_d2 hn) (gs_left hP) hk) h) (fun H locs hP hS => ?_)
  refine lv_istore (lv' := [(6, .int rz.1), (5, .int (lwc [1] rv.1)), (0, .ref sb), (1, .ref (a 0)), (2, .ref (b 0)), (3, .ref ao), (4, .int x4)]) hx hb dL_law_740 hl (by decide) rfl (fun ls hl => ?_)
  refine lv_goto (tgt := 921) hx hb dL_law_742 (by decide) ?_
  refine W.widen (k := cells + 1) (n := slots + 6) (by omega) (by omega) ?_
  exact kk u rz.2 (if rv.1 = 0 then vp_updL f 0 (Int32.toInt64 rv.2) else f) _ _ _ hR' hP hS (lv_sub hl [2, 3, 4, 5, 6] rfl)
