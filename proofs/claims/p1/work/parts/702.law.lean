set_option maxHeartbeats 4000000 in
theorem law_k8 {p : Program} {l : Launch} (hl9 : l.stackTraces = false) {e : Env} {s : State} {m : MethodId} {below : List Frame} {meth : Method} {c : Code} {D : va_G} {a b : Nat → Nat} {ao sb L : Nat} {cA cL : ClassId} {xs : Nat → Int32} (C0 : lw_At p s m meth c sb L xs) (C1 : law_C D a b ao cA cL s) {i : Nat} {x4 : Int32} (hi : i + 7 ≤ L) (hL : L ≤ lawN) (ex4 : x4 = nI i) {u w : g_S} {f : Nat → Int64} (hR : Rel u w) {cells slots : Nat} (hc9 : cells + 7 ≤ room_1.cells) (hs9 : slots + 42 ≤ room_1.slots) {H : Heap} {locs : List Loc} (hP : va_P D vwCl (lawW a b ao cA cL ((u, f), w)) H) (hS : va_S (rg (lawA a b ao) s.heap.size) s.heap H locs) {ls : Array Slot} (hl : lv_has ls 7 [(0, .ref sb), (1, .ref (a 0)), (2, .ref (b 0)), (3, .ref ao), (4, .int x4)])
    (kk : ∀ (u w : g_S) (f : Nat → Int64) (H : Heap) (locs : List Loc) (ls : Array Slot), True → va_P D vwCl (lawW a b ao cA cL ((u, f), w)) H → va_S (rg (lawA a b ao) s.heap.size) s.heap H locs → lv_has ls 7 [(0, .ref sb), (1, .ref (a 0)), (2, .ref (b 0)), (3, .ref ao), (4, .int x4)] → W p l e room_1 s m #[Value.ref sb] below meth c H locs (cells + 7) (slots + 42) (lw_Z below #[Value.ref sb] s) (F0 m 1256 ls [])) : W p l e room_1 s m #[Value.ref sb] below meth c H locs cells slots (lw_Z below #[Value.ref sb] s) (F0 m 740 ls []) := by
  obtain ⟨hx, hb, hr, hml, hown, hts0, hX, hbl, hlocks, hgv⟩ := id C0
  obtain ⟨hK, hn, hge, hgX⟩ := id C1
  have hts : ∀ w ∈ gT, w.before #[Value.ref sb] s = true := fun w h => hts0 w (List.mem_filter.mp h).1
  have hbA : ¬ rg (lawA a b ao) s.heap.size sb := law_nb hge hbl
  have hL31 : L < 2 ^ 31 := Nat.lt_of_le_of_lt hL (by decide)
  obtain ⟨rv, rz, h1, hc, h2, hR', hcm⟩ := step_watch hR ((xs (x4 + (1 : Int32)).toNatClampNeg)) ((xs (x4 + (2 : Int32)).toNatClampNeg)) ((xs (x4 + (3 : Int32)).toNatClampNeg)) ((xs (x4 + (4 : Int32)).toNatClampNeg))
  refine lv_aload_n hx hb dL_law_740 rfl (lv_at hl 1 rfl) ?_
  refine lv_aload_n hx hb dL_law_741 rfl (lv_at hl 0 rfl) ?_
  refine lv_iload hx hb dL_law_742 (lv_at hl 4 rfl) ?_
  refine lv_iconst (v := (1 : Int32)) hx hb dL_law_744 (by decide) ?_
  refine lv_iadd hx hb dL_law_745 ?_
  refine va_sld hx hb hX hbl hbA hS (law_ix (k := 1) ex4 (by omega) hL31) dL_law_746 ?_
  refine lv_aload_n hx hb dL_law_747 rfl (lv_at hl 0 rfl) ?_
  refine lv_iload hx hb dL_law_748 (lv_at hl 4 rfl) ?_
  refine lv_iconst (v := (2 : Int32)) hx hb dL_law_750 (by decide) ?_
  refine lv_iadd hx hb dL_law_751 ?_
  refine va_sld hx hb hX hbl hbA hS (law_ix (k := 2) ex4 (by omega) hL31) dL_law_752 ?_
  refine lv_aload_n hx hb dL_law_753 rfl (lv_at hl 0 rfl) ?_
  refine lv_iload hx hb dL_law_754 (lv_at hl 4 rfl) ?_
  refine lv_iconst (v := (3 : Int32)) hx hb dL_law_756 (by decide) ?_
  refine lv_iadd hx hb dL_law_757 ?_
  refine va_sld hx hb hX hbl hbA hS (law_ix (k := 3) ex4 (by omega) hL31) dL_law_758 ?_
  refine lv_aload_n hx hb dL_law_759 rfl (lv_at hl 0 rfl) ?_
  refine lv_iload hx hb dL_law_760 (lv_at hl 4 rfl) ?_
  refine lv_iconst (v := (4 : Int32)) hx hb dL_law_762 (by decide) ?_
  refine lv_iadd hx hb dL_law_763 ?_
  refine va_sld hx hb hX hbl hbA hS (law_ix (k := 4) ex4 (by omega) hL31) dL_law_764 ?_
  refine gs_ki (w2 := lawW a b ao cA cL ((rv.2, f), w)) hS law_le1 (vx_runSW (hh := [(0, 9, 12, 13), (0, 9, 16, 15), (0, 9, 20, 42)]) (As := [.ref (a 0), .int (xs (x4 + (1 : Int32)).toNatClampNeg), .int (xs (x4 + (2 : Int32)).toNatClampNeg), .int (xs (x4 + (3 : Int32)).toNatClampNeg), .int (xs (x4 + (4 : Int32)).toNatClampNeg)]) (rest := []) ⟨hx, hb, hml, hown, hts⟩ (mL_watch hl9 (D := D) (a := a) (ao := ao) (cA := cA) (cL := cL) (u := u) (f := f) h1 hc) (vx_cwSW 5 hts glaw_114 rfl rfl rfl (by decide +kernel) ⟨Nat.le_of_ble_eq_true rfl, Nat.le_of_ble_eq_true rfl⟩) (gs_preS gX_ok hK (law_n1 hn) hgX (gs_left hP) hS law_le1 [.ref (a 0), .int (xs (x4 + (1 : Int32)).toNatClampNeg), .int (xs (x4 + (2 : Int32)).toNatClampNeg), .int (xs (x4 + (3 : Int32)).toNatClampNeg), .int (xs (x4 + (4 : Int32)).toNatClampNeg)]) rfl rfl hl.1 rfl (lv_room (Nat.le_of_ble_eq_true rfl)) dL_law_765 ⟨by show cells + 3 ≤ _; omega, by show slots + 18 ≤ _; omega⟩) (fun H1 h hk => gs_app h (gs_kept rfl (law_d1 hn) (gs_right hP) hk)) (fun H locs hP hS => ?_)
  refine lv_istore (lv' := [(5, .int (lwc [1, 2, 3] rv.1)), (0, .ref sb), (1, .ref (a 0)), (2, .ref (b 0)), (3, .ref ao), (4, .int x4)]) hx hb dL_law_768 hl (by decide) rfl (fun ls hl => ?_)
  refine lv_aload_n hx hb dL_law_770 rfl (lv_at hl 3 rfl) ?_
  refine lv_aload_n hx hb dL_law_771 rfl (lv_at hl 1 rfl) ?_
  refine lv_iload hx hb dL_law_772 (lv_at hl 5 rfl) ?_
  refine lv_iconst (v := (1 : Int32)) hx hb dL_law_774 (by decide) ?_
  refine lv_iadd hx hb dL_law_775 ?_
  refine va_sld hx hb hX hbl hbA hS (law_ix (k := 1) ex4 (by omega) hL31) dL_law_776 ?_
  refine lv_aload_n hx hb dL_law_777 rfl (lv_at hl 1 rfl) ?_
  refine lv_iload hx hb dL_law_778 (lv_at hl 5 rfl) ?_
  refine lv_iconst (v := (2 : Int32)) hx hb dL_law_780 (by decide) ?_
  refine lv_iadd hx hb dL_law_781 ?_
  refine va_sld hx hb hX hbl hbA hS (law_ix (k := 2) ex4 (by omega) hL31) dL_law_782 ?_
  refine lv_aload_n hx hb dL_law_783 rfl (lv_at hl 1 rfl) ?_
  refine lv_iload hx hb dL_law_784 (lv_at hl 5 rfl) ?_
  refine lv_iconst (v := (3 : Int32)) hx hb dL_law_786 (by decide) ?_
  refine lv_iadd hx hb dL_law_787 ?_
  refine va_sld hx hb hX hbl hbA hS (law_ix (k := 3) ex4 (by omega) hL31) dL_law_788 ?_
  refine lv_aload_n hx hb dL_law_789 rfl (lv_at hl 1 rfl) ?_
  refine lv_iload hx hb dL_law_790 (lv_at hl 5 rfl) ?_
  refine lv_iconst (v := (4 : Int32)) hx hb dL_law_792 (by decide) ?_
  refine lv_iadd hx hb dL_law_793 ?_
  refine va_sld hx hb hX hbl hbA hS (law_ix (k := 4) ex4 (by omega) hL31) dL_law_794 ?_
  refine gs_kv (w2 := lawW a b ao cA cL ((rv.2, f), rz)) hS law_le2 (va_runV (As := [.int (xs (x4 + (1 : Int32)).toNatClampNeg), .int (xs (x4 + (2 : Int32)).toNatClampNeg), .int (xs (x4 + (3 : Int32)).toNatClampNeg), .int (xs (x4 + (4 : Int32)).toNatClampNeg)]) (rest := []) ⟨hx, hb, hml, hown, hts⟩ (mX6_watch (D := D) (a := b) (cA := cA) (u := w) h2) (cwV 4 hts glaw_117 rfl rfl rfl (by decide +kernel) ⟨Nat.le_of_ble_eq_true rfl, Nat.le_of_ble_eq_true rfl⟩) (gs_preV (q0 := 0) (ci := 5) gY_ok (hK.sub (tys' := [(cA, .int)]) [0] rfl) (law_n2 hn) trivial (gs_right hP) hS law_le2 [.int (xs (x4 + (1 : Int32)).toNatClampNeg), .int (xs (x4 + (2 : Int32)).toNatClampNeg), .int (xs (x4 + (3 : Int32)).toNatClampNeg), .int (xs (x4 + (4 : Int32)).toNatClampNeg)] rfl rfl) rfl rfl hl.1 rfl (lv_room (Nat.le_of_ble_eq_true rfl)) dL_law_795 ⟨by omega, by omega⟩) (fun H1 h hk => gs_app (gs_kept rfl (law_d2 hn) (gs_left hP) hk) h) (fun H locs hP hS => ?_)
  refine lv_aload_n hx hb dL_law_798 rfl (lv_at hl 3 rfl) ?_
  refine gs_ki (w2 := lawW a b ao cA cL ((rv.2, f), rz)) hS law_le2 (va_runV (As := []) (rest := []) ⟨hx, hb, hml, hown, hts⟩ (mX6_thrown (D := D) (a := b) (cA := cA) (u := rz) (rfl : fm_thrown rz = some (rz.1 0))) (cwV 0 hts glaw_84 rfl rfl rfl (by decide +kernel) ⟨Nat.le_of_ble_eq_true rfl, Nat.le_of_ble_eq_true rfl⟩) (gs_preV (q0 := 0) (ci := 5) gY_ok (hK.sub (tys' := [(cA, .int)]) [0] rfl) (law_n2 hn) trivial (gs_right hP) hS law_le2 [] rfl rfl) rfl rfl hl.1 rfl (lv_room (Nat.le_of_ble_eq_true rfl)) dL_law_799 ⟨by omega, by omega⟩) (fun H1 h hk => gs_app (gs_kept rfl (law_d2 hn) (gs_left hP) hk) h) (fun H locs hP hS => ?_)
  refine lv_iload hx hb dL_law_802 (lv_at hl 0 rfl) ?_
  refine lv_icmp_eq (tgt := 809) hx hb dL_law_804 (by decide) (fun c1 => ?_) (fun c1 => absurd hcm c1)
  refine lv_goto (tgt := 1256) hx hb dL_law_809 (by decide) ?_
  refine W.widen (k := cells + 7) (n := slots + 42) (by omega) (by omega) ?_
  exact kk rv.2 rz f _ _ _ hR' hP hS (lv_sub hl [1, 2, 3, 4, 5] rfl)
set_option maxHeartbeats 4000000 in
theorem law_k9 {p : Program} {l : Launch} (hl9 : l.stackTraces = false) {e : Env} {s : State} {m : MethodId} {below : List Frame} {meth : Method} {c : Code} {D : va_G} {a b : Nat → Nat} {ao sb L : Nat} {cA cL : ClassId} {xs : Nat → Int32} (C0 : lw_At p s m meth c sb L xs) (C1 : law_C D a b ao cA cL s) {i : Nat} {x4 : Int32} (hi : i + 7 ≤ L) (hL : L ≤ lawN) (ex4 : x4 = nI i) {u w : g_S} {f : Nat → Int64} (hR : Rel u w) {cells slots : Nat} (hc9 : cells + 7 ≤ room_1.cells) (hs9 : slots + 42 ≤ room_1.slots) {H : Heap} {locs : List Loc} (hP : va_P D vwCl (lawW a b ao cA cL ((u, f), w)) H) (hS : va_S (rg (lawA a b ao) s.heap.size) s.heap H locs) {ls : Array Slot} (hl : lv_has ls 7 [(0, .ref sb), (1, .ref (a 0)), (2, .ref (b 0)), (3, .ref ao), (4, .int x4)])
    (kk : ∀ (u w : g_S) (f : Nat → Int64) (H : Heap) (locs : List Loc) (ls : Array Slot), True → va_P D vwCl (lawW a b ao cA cL ((u, f), w)) H → va_S (rg (lawA a b ao) s.heap.size) s.heap H locs → lv_has ls 7 [(0, .ref sb), (1, .ref (a 0)), (2, .ref (b 0)), (3, .ref ao), (4, .int x4)] → W p l e room_1 s m #[Value.ref sb] below meth c H locs (cells + 7) (slots + 42) (lw_Z below #[Value.ref sb] s) (F0 m 1256 ls [])) : W p l e room_1 s m #[Value.ref sb] below meth c H locs cells slots (lw_Z below #[Value.ref sb] s) (F0 m 812 ls []) := by
  obtain ⟨hx, hb, hr, hml, hown, hts0, hX, hbl, hlocks, hgv⟩ := id C0
  obtain ⟨hK, hn, hge, hgX⟩ := id C1
  have hts : ∀ w ∈ gT, w.before #[Value.ref sb] s = true := fun w h => hts0 w (List.mem_filter.mp h).1
  have hbA : ¬ rg (lawA a b ao) s.heap.size sb := law_nb hge hbl
  have hL31 : L < 2 ^ 31 := Nat.lt_of_le_of_lt hL (by decide)
  obtain ⟨rv, rz, h1, hc, h2, hR', hcm⟩ := step_state hR ((xs (x4 + (1 : Int32)).toNatClampNeg)) ((xs (x4 + (2 : Int32)).toNatClampNeg))
  refine lv_aload_n hx hb dL_law_812 rfl (lv_at hl 1 rfl) ?_
  refine lv_aload_n hx hb dL_law_813 rfl (lv_at hl 0 rfl) ?_
  refine lv_iload hx hb dL_law_814 (lv_at hl 4 rfl) ?_
  refine lv_iconst (v := (1 : Int32)) hx hb dL_law_816 (by decide) ?_
  refine lv_iadd hx hb dL_law_817 ?_
  refine va_sld hx hb hX hbl hbA hS (law_ix (k := 1) ex4 (by omega) hL31) dL_law_818 ?_
  refine lv_aload_n hx hb dL_law_819 rfl (lv_at hl 0 rfl) ?_
  refine lv_iload hx hb dL_law_820 (lv_at hl 4 rfl) ?_
  refine lv_iconst (v := (2 : Int32)) hx hb dL_law_822 (by decide) ?_
  refine lv_iadd hx hb dL_law_823 ?_
  refine va_sld hx hb hX hbl hbA hS (law_ix (k := 2) ex4 (by omega) hL31) dL_law_824 ?_
  refine gs_ki (w2 := lawW a b ao cA cL ((rv.2, f), w)) hS law_le1 (vx_runSW (hh := [(0, 6, 9, 13), (0, 6, 12, 15), (0, 6, 15, 42)]) (As := [.ref (a 0), .int (xs (x4 + (1 : Int32)).toNatClampNeg), .int (xs (x4 + (2 : Int32)).toNatClampNeg)]) (rest := []) ⟨hx, hb, hml, hown, hts⟩ (mL_state hl9 (D := D) (a := a) (ao := ao) (cA := cA) (cL := cL) (u := u) (f := f) h1 hc) (vx_cwSW 3 hts glaw_118 rfl rfl rfl (by decide +kernel) ⟨Nat.le_of_ble_eq_true rfl, Nat.le_of_ble_eq_true rfl⟩) (gs_preS gX_ok hK (law_n1 hn) hgX (gs_left hP) hS law_le1 [.ref (a 0), .int (xs (x4 + (1 : Int32)).toNatClampNeg), .int (xs (x4 + (2 : Int32)).toNatClampNeg)]) rfl rfl hl.1 rfl (lv_room (Nat.le_of_ble_eq_true rfl)) dL_law_825 ⟨by show cells + 3 ≤ _; omega, by show slots + 18 ≤ _; omega⟩) (fun H1 h hk => gs_app h (gs_kept rfl (law_d1 hn) (gs_right hP) hk)) (fun H locs hP hS => ?_)
  refine lv_istore (lv' := [(5, .int (lwc [1, 2, 3] rv.1)), (0, .ref sb), (1, .ref (a 0)), (2, .ref (b 0)), (3, .ref ao), (4, .int x4)]) hx hb dL_law_828 hl (by decide) rfl (fun ls hl => ?_)
  refine lv_aload_n hx hb dL_law_830 rfl (lv_at hl 3 rfl) ?_
  refine lv_aload_n hx hb dL_law_831 rfl (lv_at hl 1 rfl) ?_
  refine lv_iload hx hb dL_law_832 (lv_at hl 5 rfl) ?_
  refine lv_iconst (v := (1 : Int32)) hx hb dL_law_834 (by decide) ?_
  refine lv_iadd hx hb dL_law_835 ?_
  refine va_sld hx hb hX hbl hbA hS (law_ix (k := 1) ex4 (by omega) hL31) dL_law_836 ?_
  refine lv_aload_n hx hb dL_law_837 rfl (lv_at hl 1 rfl) ?_
  refine lv_iload hx hb dL_law_838 (lv_at hl 5 rfl) ?_
  refine lv_iconst (v := (2 : Int32)) hx hb dL_law_840 (by decide) ?_
  refine lv_iadd hx hb dL_law_841 ?_
  refine va_sld hx hb hX hbl hbA hS (law_ix (k := 2) ex4 (by omega) hL31) dL_law_842 ?_
  refine gs_kv (w2 := lawW a b ao cA cL ((rv.2, f), rz)) hS law_le2 (va_runV (As := [.int (xs (x4 + (1 : Int32)).toNatClampNeg), .int (xs (x4 + (2 : Int32)).toNatClampNeg)]) (rest := []) ⟨hx, hb, hml, hown, hts⟩ (mX6_state (D := D) (a := b) (cA := cA) (u := w) h2) (cwV 2 hts glaw_120 rfl rfl rfl (by decide +kernel) ⟨Nat.le_of_ble_eq_true rfl, Nat.le_of_ble_eq_true rfl⟩) (gs_preV (q0 := 0) (ci := 5) gY_ok (hK.sub (tys' := [(cA, .int)]) [0] rfl) (law_n2 hn) trivial (gs_right hP) hS law_le2 [.int (xs (x4 + (1 : Int32)).toNatClampNeg), .int (xs (x4 + (2 : Int32)).toNatClampNeg)] rfl rfl) rfl rfl hl.1 rfl (lv_room (Nat.le_of_ble_eq_true rfl)) dL_law_843 ⟨by omega, by omega⟩) (fun H1 h hk => gs_app (gs_kept rfl (law_d2 hn) (gs_left hP) hk) h) (fun H locs hP hS => ?_)
  refine lv_aload_n hx hb dL_law_846 rfl (lv_at hl 3 rfl) ?_
  refine gs_ki (w2 := lawW a b ao cA cL ((rv.2, f), rz)) hS law_le2 (va_runV (As := []) (rest := []) ⟨hx, hb, hml, hown, hts⟩ (mX6_thrown (D := D) (a := b) (cA := cA) (u := rz) (rfl : fm_thrown rz = some (rz.1 0))) (cwV 0 hts glaw_84 rfl rfl rfl (by decide +kernel) ⟨Nat.le_of_ble_eq_true rfl, Nat.le_of_ble_eq_true rfl⟩) (gs_preV (q0 := 0) (ci := 5) gY_ok (hK.sub (tys' := [(cA, .int)]) [0] rfl) (law_n2 hn) trivial (gs_right hP) hS law_le2 [] rfl rfl) rfl rfl hl.1 rfl (lv_room (Nat.le_of_ble_eq_true rfl)) dL_law_847 ⟨by omega, by omega⟩) (fun H1 h hk => gs_app (gs_kept rfl (law_d2 hn) (gs_left hP) hk) h) (fun H locs hP hS => ?_)
  refine lv_iload hx hb dL_law_850 (lv_at hl 0 rfl) ?_
  refine lv_icmp_eq (tgt := 857) hx hb dL_law_852 (by decide) (fun c1 => ?_) (fun c1 => absurd hcm c1)
  refine lv_goto (tgt := 1256) hx hb dL_law_857 (by decide) ?_
  refine W.widen (k := cells + 7) (n := slots + 42) (by omega) (by omega) ?_
  exact kk rv.2 rz f _ _ _ hR' hP hS (lv_sub hl [1, 2, 3, 4, 5] rfl)
set_option maxHeartbeats 4000000 in
theorem law_k10 {p : Program} {l : Launch} (hl9 : l.stackTraces = false) {e : Env} {s : State} {m : MethodId} {below : List Frame} {meth : Method} {c : Code} {D : va_G} {a b : Nat → Nat} {ao sb L : Nat} {cA cL : ClassId} {xs : Nat → Int32} (C0 : lw_At p s m meth c sb L xs) (C1 : law_C D a b ao cA cL s) {i : Nat} {x4 : Int32} (hi : i + 7 ≤ L) (hL : L ≤ lawN) (ex4 : x4 = nI i) {u w : g_S} {f : Nat → Int64} (hR : Rel u w) {cells slots : Nat} (hc9 : cells + 7 ≤ room_1.cells) (hs9 : slots + 42 ≤ room_1.slots) {H : Heap} {locs : List Loc} (hP : va_P D vwCl (lawW a b ao cA cL ((u, f), w)) H) (hS : va_S (rg (lawA a b ao) s.heap.size) s.heap H locs) {ls : Array Slot} (hl : lv_has ls 7 [(0, .ref sb), (1, .ref (a 0)), (2, .ref (b 0)), (3, .ref ao), (4, .int x4)])
    (kk : ∀ (u w : g_S) (f : Nat → Int64) (H : Heap) (locs : List Loc) (ls : Array Slot), True → va_P D vwCl (lawW a b ao cA cL ((u, f), w)) H → va_S (rg (lawA a b ao) s.heap.size) s.heap H locs → lv_has ls 7 [(0, .ref sb), (1, .ref (a 0)), (2, .ref (b 0)), (3, .ref ao), (4, .int x4)] → W p l e room_1 s m #[Value.ref sb] below meth c H locs (cells + 7) (slots + 42) (lw_Z below #[Value.ref sb] s) (F0 m 1256 ls [])) : W p l e room_1 s m #[Value.ref sb] below meth c H locs cells slots (lw_Z below #[Value.ref sb] s) (F0 m 860 ls []) := by
  obtain ⟨hx, hb, hr, hml, hown, hts0, hX, hbl, hlocks, hgv⟩ := id C0
  obtain ⟨hK, hn, hge, hgX⟩ := id C1
  have hts : ∀ w ∈ gT, w.before #[Value.ref sb] s = true := fun w h => hts0 w (List.mem_filter.mp h).1
  have hbA : ¬ rg (lawA a b ao) s.heap.size sb := law_nb hge hbl
  have hL31 : L < 2 ^ 31 := Nat.lt_of_le_of_lt hL (by decide)
  obtain ⟨rv, rz, h1, hc, h2, hR', hcm, hcv⟩ := step_share hR ((xs (x4 + (1 : Int32)).toNatClampNeg)) ((xs (x4 + (2 : Int32)).toNatClampNeg))
  refine lv_aload_n hx hb dL_law_860 rfl (lv_at hl 1 rfl) ?_
  refine lv_aload_n hx hb dL_law_861 rfl (lv_at hl 0 rfl) ?_
  refine lv_iload hx hb dL_law_862 (lv_at hl 4 rfl) ?_
  refine lv_iconst (v := (1 : Int32)) hx hb dL_law_864 (by decide) ?_
  refine lv_iadd hx hb dL_law_865 ?_
  refine va_sld hx hb hX hbl hbA hS (law_ix (k := 1) ex4 (by omega) hL31) dL_law_866 ?_
  refine lv_aload_n hx hb dL_law_867 rfl (lv_at hl 0 rfl) ?_
  refine lv_iload hx hb dL_law_868 (lv_at hl 4 rfl) ?_
  refine lv_iconst (v := (2 : Int32)) hx hb dL_law_870 (by decide) ?_
  refine lv_iadd hx hb dL_law_871 ?_
  refine va_sld hx hb hX hbl hbA hS (law_ix (k := 2) ex4 (by omega) hL31) dL_law_872 ?_
  refine lv_aload_n hx hb dL_law_873 rfl (lv_at hl 3 rfl) ?_
  refine gs_ki (w2 := lawW a b ao cA cL ((u, (if rv.1 = 0 then vp_updL f 0 (Int32.toInt64 rv.2) else f)), w)) hS law_le1 (vx_runSW (hh := [(0, 10, 13, 13), (0, 10, 17, 57)]) (As := [.ref (a 0), .int (xs (x4 + (1 : Int32)).toNatClampNeg), .int (xs (x4 + (2 : Int32)).toNatClampNeg), .ref ao]) (rest := []) ⟨hx, hb, hml, hown, hts⟩ (mL_share hl9 (D := D) (a := a) (ao := ao) (cA := cA) (cL := cL) (u := u) (f := f) h1 hc) (vx_cwSW 4 hts glaw_121 rfl rfl rfl (by decide +kernel) ⟨Nat.le_of_ble_eq_true rfl, Nat.le_of_ble_eq_true rfl⟩) (gs_preS gX_ok hK (law_n1 hn) hgX (gs_left hP) hS law_le1 [.ref (a 0), .int (xs (x4 + (1 : Int32)).toNatClampNeg), .int (xs (x4 + (2 : Int32)).toNatClampNeg), .ref ao]) rfl rfl hl.1 rfl (lv_room (Nat.le_of_ble_eq_true rfl)) dL_law_874 ⟨by show cells + 2 ≤ _; omega, by show slots + 12 ≤ _; omega⟩) (fun H1 h hk => gs_app h (gs_kept rfl (law_d1 hn) (gs_right hP) hk)) (fun H locs hP hS => ?_)
  refine lv_istore (lv' := [(5, .int (lwc [1, 5] rv.1)), (0, .ref sb), (1, .ref (a 0)), (2, .ref (b 0)), (3, .ref ao), (4, .int x4)]) hx hb dL_law_877 hl (by decide) rfl (fun ls hl => ?_)
  refine lv_aload_n hx hb dL_law_879 rfl (lv_at hl 3 rfl) ?_
  refine lv_aload_n hx hb dL_law_880 rfl (lv_at hl 1 rfl) ?_
  refine lv_iload hx hb dL_law_881 (lv_at hl 5 rfl) ?_
  refine lv_iconst (v := (1 : Int32)) hx hb dL_law_883 (by decide) ?_
  refine lv_iadd hx hb dL_law_884 ?_
  refine va_sld hx hb hX hbl hbA hS (law_ix (k := 1) ex4 (by omega) hL31) dL_law_885 ?_
  refine lv_aload_n hx hb dL_law_886 rfl (lv_at hl 1 rfl) ?_
  refine lv_iload hx hb dL_law_887 (lv_at hl 5 rfl) ?_
  refine lv_iconst (v := (2 : Int32)) hx hb dL_law_889 (by decide) ?_
  refine lv_iadd hx hb dL_law_890 ?_
  refine va_sld hx hb hX hbl hbA hS (law_ix (k := 2) ex4 (by omega) hL31) dL_law_891 ?_
  refine gs_ki (w2 := lawW a b ao cA cL ((u, (if rv.1 = 0 then vp_updL f 0 (Int32.toInt64 rv.2) else f)), rz.2)) hS law_le2 (va_runV (As := [.int (xs (x4 + (1 : Int32)).toNatClampNeg), .int (xs (x4 + (2 : Int32)).toNatClampNeg)]) (rest := []) ⟨hx, hb, hml, hown, hts⟩ (mX6_share (D := D) (a := b) (cA := cA) (u := w) h2) (cwV 2 hts glaw_123 rfl rfl rfl (by decide +kernel) ⟨Nat.le_of_ble_eq_true rfl, Nat.le_of_ble_eq_true rfl⟩) (gs_preV (q0 := 0) (ci := 5) gY_ok (hK.sub (tys' := [(cA, .int)]) [0] rfl) (law_n2 hn) trivial (gs_right hP) hS law_le2 [.int (xs (x4 + (1 : Int32)).toNatClampNeg), .int (xs (x4 + (2 : Int32)).toNatClampNeg)] rfl rfl) rfl rfl hl.1 rfl (lv_room (Nat.le_of_ble_eq_true rfl)) dL_law_892 ⟨by omega, by omega⟩) (fun H1 h hk => gs_app (gs_kept rfl (law_d2 hn) (gs_left hP) hk) h) (fun H locs hP hS => ?_)
  refine lv_istore (lv' := [(6, .int rz.1), (5, .int (lwc [1, 5] rv.1)), (0, .ref sb), (1, .ref (a 0)), (2, .ref (b 0)), (3, .ref ao), (4, .int x4)]) hx hb dL_law_895 hl (by decide) rfl (fun ls hl => ?_)
  refine lv_aload_n hx hb dL_law_897 rfl (lv_at hl 4 rfl) ?_
  refine gs_ki (w2 := lawW a b ao cA cL ((u, (if rv.1 = 0 then vp_updL f 0 (Int32.toInt64 rv.2) else f)), rz.2)) hS law_le2 (va_runV (As := []) (rest := []) ⟨hx, hb, hml, hown, hts⟩ (mX6_thrown (D := D) (a := b) (cA := cA) (u := rz.2) (rfl : fm_thrown rz.2 = some (rz.2.1 0))) (cwV 0 hts glaw_84 rfl rfl rfl (by decide +kernel) ⟨Nat.le_of_ble_eq_true rfl, Nat.le_of_ble_eq_true rfl⟩) (gs_preV (q0 := 0) (ci := 5) gY_ok (hK.sub (tys' := [(cA, .int)]) [0] rfl) (law_n2 hn) trivial (gs_right hP) hS law_le2 [] rfl rfl) rfl rfl hl.1 rfl (lv_room (Nat.le_of_ble_eq_true rfl)) dL_law_898 ⟨by omega, by omega⟩) (fun H1 h hk => gs_app (gs_kept rfl (law_d2 hn) (gs_left hP) hk) h) (fun H locs hP hS => ?_)
  refine lv_iload hx hb dL_law_901 (lv_at hl 1 rfl) ?_
  refine lv_icmp_eq (tgt := 908) hx hb dL_law_903 (by decide) (fun c1 => ?_) (fun c1 => absurd hcm c1)
  refine lv_iload hx hb dL_law_908 (lv_at hl 1 rfl) ?_
  refine lv_if_ne (tgt := 925) hx hb dL_law_910 (by decide) (fun c2 => ?_) (fun c2 => ?_)
  · refine lv_goto (tgt := 1256) hx hb dL_law_925 (by decide) ?_
    refine W.widen (k := cells + 7) (n := slots + 42) (by omega) (by omega) ?_
    exact kk u rz.2 (if rv.1 = 0 then vp_updL f 0 (Int32.toInt64 rv.2) else f) _ _ _ hR' hP hS (lv_sub hl [2, 3, 4, 5, 6] rfl)
  have k0 : rv.1 = 0 := by
    rcases hc with hc | hc | hc
    · exact hc
    · rw [hc] at c2; exact absurd c2 (by decide)
    · rw [hc] at c2; exact absurd c2 (by decide)
  refine lv_aload_n hx hb dL_law_913 rfl (lv_at hl 5 rfl) ?_
  refine lv_iconst (v := (0 : Int32)) hx hb dL_law_914 (by decide) ?_
  refine va_lald hx hb hK hP 28 1 rfl rfl (by unfold vp_in; decide) dL_law_915 ?_
  refine lv_iload hx hb dL_law_916 (lv_at hl 0 rfl) ?_
  refine lv_i2l (v := Int32.toInt64 rz.1) hx hb dL_law_918 rfl ?_
  refine W.lcmp hx hb dL_law_919 ?_
  refine lv_if_eq (tgt := 925) hx hb dL_law_920 (by decide) (fun c3 => ?_) (fun c3 => absurd (lwv k0 (hcv k0)) c3)
  refine lv_goto (tgt := 1256) hx hb dL_law_925 (by decide) ?_
  refine W.widen (k := cells + 7) (n := slots + 42) (by omega) (by omega) ?_
  exact kk u rz.2 (if rv.1 = 0 then vp_updL f 0 (Int32.toInt64 rv.2) else f) _ _ _ hR' hP hS (lv_sub hl [2, 3, 4, 5, 6] rfl)
set_option maxHeartbeats 4000000 in
theorem law_k11 {p : Program} {l : Launch} (hl9 : l.stackTraces = false) {e : Env} {s : State} {m : MethodId} {below : List Frame} {meth : Method} {c : Code} {D : va_G} {a b : Nat → Nat} {ao sb L : Nat} {cA cL : ClassId} {xs : Nat → Int32} (C0 : lw_At p s m meth c sb L xs) (C1 : law_C D a b ao cA cL s) {i : Nat} {x4 : Int32} (hi : i + 7 ≤ L) (hL : L ≤ lawN) (ex4 : x4 = nI i) {u w : g_S} {f : Nat → Int64} (hR : Rel u w) {cells slots : Nat} (hc9 : cells + 7 ≤ room_1.cells) (hs9 : slots + 42 ≤ room_1.slots) {H : Heap} {locs : List Loc} (hP : va_P D vwCl (lawW a b ao cA cL ((u, f), w)) H) (hS : va_S (rg (lawA a b ao) s.heap.size) s.heap H locs) {ls : Array Slot} (hl : lv_has ls 7 [(0, .ref sb), (1, .ref (a 0)), (2, .ref (b 0)), (3, .ref ao), (4, .int x4)])
    (kk : ∀ (u w : g_S) (f : Nat → Int64) (H : Heap) (locs : List Loc) (ls : Array Slot), True → va_P D vwCl (lawW a b ao cA cL ((u, f), w)) H → va_S (rg (lawA a b ao) s.heap.size) s.heap H locs → lv_has ls 7 [(0, .ref sb), (1, .ref (a 0)), (2, .ref (b 0)), (3, .ref ao), (4, .int x4)] → W p l e room_1 s m #[Value.ref sb] below meth c H locs (cells + 7) (slots + 42) (lw_Z below #[Value.ref sb] s) (F0 m 1256 ls [])) : W p l e room_1 s m #[Value.ref sb] below meth c H locs cells slots (lw_Z below #[Value.ref sb] s) (F0 m 928 ls []) := by
  obtain ⟨hx, hb, hr, hml, hown, hts0, hX, hbl, hlocks, hgv⟩ := id C0
  obtain ⟨hK, hn, hge, hgX⟩ := id C1
  have hts : ∀ w ∈ gT, w.before #[Value.ref sb] s = true := fun w h => hts0 w (List.mem_filter.mp h).1
  have hbA : ¬ rg (lawA a b ao) s.heap.size sb := law_nb hge hbl
  have hL31 : L < 2 ^ 31 := Nat.lt_of_le_of_lt hL (by decide)
  obtain ⟨rv, rz, h1, hc, h2, hR', hcm, hcv⟩ := step_agree hR ((xs (x4 + (1 : Int32)).toNatClampNeg)) ((xs (x4 + (2 : Int32)).toNatClampNeg))
  refine lv_aload_n hx hb dL_law_928 rfl (lv_at hl 1 rfl) ?_
  refine lv_aload_n hx hb dL_law_929 rfl (lv_at hl 0 rfl) ?_
  refine lv_iload hx hb dL_law_930 (lv_at hl 4 rfl) ?_
  refine lv_iconst (v := (1 : Int32)) hx hb dL_law_932 (by decide) ?_
  refine lv_iadd hx hb dL_law_933 ?_
  refine va_sld hx hb hX hbl hbA hS (law_ix (k := 1) ex4 (by omega) hL31) dL_law_934 ?_
  refine lv_aload_n hx hb dL_law_935 rfl (lv_at hl 0 rfl) ?_
  refine lv_iload hx hb dL_law_936 (lv_at hl 4 rfl) ?_
  refine lv_iconst (v := (2 : Int32)) hx hb dL_law_938 (by decide) ?_
  refine lv_iadd hx hb dL_law_939 ?_
  refine va_sld hx hb hX hbl hbA hS (law_ix (k := 2) ex4 (by omega) hL31) dL_law_940 ?_
  refine lv_aload_n hx hb dL_law_941 rfl (lv_at hl 3 rfl) ?_
  refine gs_ki (w2 := lawW a b ao cA cL ((u, (if rv.1 = 0 then vp_updL f 0 (Int32.toInt64 rv.2) else f)), w)) hS law_le1 (vx_runSW (hh := [(0, 10, 13, 13)]) (As := [.ref (a 0), .int (xs (x4 + (1 : Int32)).toNatClampNeg), .int (xs (x4 + (2 : Int32)).toNatClampNeg), .ref ao]) (rest := []) ⟨hx, hb, hml, hown, hts⟩ (mL_agree hl9 (D := D) (a := a) (ao := ao) (cA := cA) (cL := cL) (u := u) (f := f) h1 hc) (vx_cwSW 4 hts glaw_124 rfl rfl rfl (by decide +kernel) ⟨Nat.le_of_ble_eq_true rfl, Nat.le_of_ble_eq_true rfl⟩) (gs_preS gX_ok hK (law_n1 hn) hgX (gs_left hP) hS law_le1 [.ref (a 0), .int (xs (x4 + (1 : Int32)).toNatClampNeg), .int (xs (x4 + (2 : Int32)).toNatClampNeg), .ref ao]) rfl rfl hl.1 rfl (lv_room (Nat.le_of_ble_eq_true rfl)) dL_law_942 ⟨by show cells + 1 ≤ _; omega, by show slots + 6 ≤ _; omega⟩) (fun H1 h hk => gs_app h (gs_kept rfl (law_d1 hn) (gs_right hP) hk)) (fun H locs hP hS => ?_)
  refine lv_istore (lv' := [(5, .int (lwc [1] rv.1)), (0, .ref sb), (1, .ref (a 0)), (2, .ref (b 0)), (3, .ref ao), (4, .int x4)]) hx hb dL_law_945 hl (by decide) rfl (fun ls hl => ?_)
  refine lv_aload_n hx hb dL_law_947 rfl (lv_at hl 3 rfl) ?_
  refine lv_aload_n hx hb dL_law_948 rfl (lv_at hl 1 rfl) ?_
  refine lv_iload hx hb dL_law_949 (lv_at hl 5 rfl) ?_
  refine lv_iconst (v := (1 : Int32)) hx hb dL_law_951 (by decide) ?_
  refine lv_iadd hx hb dL_law_952 ?_
  refine va_sld hx hb hX hbl hbA hS (law_ix (k := 1) ex4 (by omega) hL31) dL_law_953 ?_
  refine lv_aload_n hx hb dL_law_954 rfl (lv_at hl 1 rfl) ?_
  refine lv_iload hx hb dL_law_955 (lv_at hl 5 rfl) ?_
  refine lv_iconst (v := (2 : Int32)) hx hb dL_law_957 (by decide) ?_
  refine lv_iadd hx hb dL_law_958 ?_
  refine va_sld hx hb hX hbl hbA hS (law_ix (k := 2) ex4 (by omega) hL31) dL_law_959 ?_
  refine gs_ki (w2 := lawW a b ao cA cL ((u, (if rv.1 = 0 then vp_updL f 0 (Int32.toInt64 rv.2) else f)), rz.2)) hS law_le2 (va_runV (As := [.int (xs (x4 + (1 : Int32)).toNatClampNeg), .int (xs (x4 + (2 : Int32)).toNatClampNeg)]) (rest := []) ⟨hx, hb, hml, hown, hts⟩ (mX6_agree (D := D) (a := b) (cA := cA) (u := w) h2) (cwV 2 hts glaw_126 rfl rfl rfl (by decide +kernel) ⟨Nat.le_of_ble_eq_true rfl, Nat.le_of_ble_eq_true rfl⟩) (gs_preV (q0 := 0) (ci := 5) gY_ok (hK.sub (tys' := [(cA, .int)]) [0] rfl) (law_n2 hn) trivial (gs_right hP) hS law_le2 [.int (xs (x4 + (1 : Int32)).toNatClampNeg), .int (xs (x4 + (2 : Int32)).toNatClampNeg)] rfl rfl) rfl rfl hl.1 rfl (lv_room (Nat.le_of_ble_eq_true rfl)) dL_law_960 ⟨by omega, by omega⟩) (fun H1 h hk => gs_app (gs_kept rfl (law_d2 hn) (gs_left hP) hk) h) (fun H locs hP hS => ?_)
  refine lv_istore (lv' := [(6, .int rz.1), (5, .int (lwc [1] rv.1)), (0, .ref sb), (1, .ref (a 0)), (2, .ref (b 0)), (3, .ref ao), (4, .int x4)]) hx hb dL_law_963 hl (by decide) rfl (fun ls hl => ?_)
  refine lv_aload_n hx hb dL_law_965 rfl (lv_at hl 4 rfl) ?_
  refine gs_ki (w2 := lawW a b ao cA cL ((u, (if rv.1 = 0 then vp_updL f 0 (Int32.toInt64 rv.2) else f)), rz.2)) hS law_le2 (va_runV (As := []) (rest := []) ⟨hx, hb, hml, hown, hts⟩ (mX6_thrown (D := D) (a := b) (cA := cA) (u := rz.2) (rfl : fm_thrown rz.2 = some (rz.2.1 0))) (cwV 0 hts glaw_84 rfl rfl rfl (by decide +kernel) ⟨Nat.le_of_ble_eq_true rfl, Nat.le_of_ble_eq_true rfl⟩) (gs_preV (q0 := 0) (ci := 5) gY_ok (hK.sub (tys' := [(cA, .int)]) [0] rfl) (law_n2 hn) trivial (gs_right hP) hS law_le2 [] rfl rfl) rfl rfl hl.1 rfl (lv_room (Nat.le_of_ble_eq_true rfl)) dL_law_966 ⟨by omega, by omega⟩) (fun H1 h hk => gs_app (gs_kept rfl (law_d2 hn) (gs_left hP) hk) h) (fun H locs hP hS => ?_)
  refine lv_iload hx hb dL_law_969 (lv_at hl 1 rfl) ?_
  refine lv_icmp_eq (tgt := 976) hx hb dL_law_971 (by decide) (fun c1 => ?_) (fun c1 => absurd hcm c1)
  refine lv_iload hx hb dL_law_976 (lv_at hl 1 rfl) ?_
  refine lv_if_ne (tgt := 993) hx hb dL_law_978 (by decide) (fun c2 => ?_) (fun c2 => ?_)
  · refine lv_goto (tgt := 1256) hx hb dL_law_993 (by decide) ?_
    refine W.widen (k := cells + 7) (n := slots + 42) (by omega) (by omega) ?_
    exact kk u rz.2 (if rv.1 = 0 then vp_updL f 0 (Int32.toInt64 rv.2) else f) _ _ _ hR' hP hS (lv_sub hl [2, 3, 4, 5, 6] rfl)
  have k0 : rv.1 = 0 := by
    rcases hc with hc | hc
    · exact hc
    · rw [hc] at c2; exact absurd c2 (by decide)
  refine lv_aload_n hx hb dL_law_981 rfl (lv_at hl 5 rfl) ?_
  refine lv_iconst (v := (0 : Int32)) hx hb dL_law_982 (by decide) ?_
  refine va_lald hx hb hK hP 28 1 rfl rfl (by unfold vp_in; decide) dL_law_983 ?_
  refine lv_iload hx hb dL_law_984 (lv_at hl 0 rfl) ?_
  refine lv_i2l (v := Int32.toInt64 rz.1) hx hb dL_law_986 rfl ?_
  refine W.lcmp hx hb dL_law_987 ?_
  refine lv_if_eq (tgt := 993) hx hb dL_law_988 (by decide) (fun c3 => ?_) (fun c3 => absurd (lwv k0 (hcv k0)) c3)
  refine lv_goto (tgt := 1256) hx hb dL_law_993 (by decide) ?_
  refine W.widen (k := cells + 7) (n := slots + 42) (by omega) (by omega) ?_
  exact kk u rz.2 (if rv.1 = 0 then vp_updL f 0 (Int32.toInt64 rv.2) else f) _ _ _ hR' hP hS (lv_sub hl [2, 3, 4, 5, 6] rfl)
