set_option maxHeartbeats 4000000 in
theorem law_k4 {p : Program} {l : Launch} (hl9 : l.stackTraces = false) {e : Env} {s : State} {m : MethodId} {below : List Frame} {meth : Method} {c : Code} {D : va_G} {a b : Nat → Nat} {ao sb L : Nat} {cA cL : ClassId} {xs : Nat → Int32} (C0 : lw_At p s m meth c sb L xs) (C1 : law_C D a b ao cA cL s) {i : Nat} {x4 : Int32} (hi : i + 7 ≤ L) (hL : L ≤ lawN) (ex4 : x4 = nI i) {u w : g_S} {f : Nat → Int64} (hR : Rel u w) {cells slots : Nat} (hc9 : cells + 1 ≤ room_1.cells) (hs9 : slots + 6 ≤ room_1.slots) {H : Heap} {locs : List Loc} (hP : va_P D vwCl (lawW a b ao cA cL ((u, f), w)) H) (hS : va_S (rg (lawA a b ao) s.heap.size) s.heap H locs) {ls : Array Slot} (hl : lv_has ls 7 [(0, .ref sb), (1, .ref (a 0)), (2, .ref (b 0)), (3, .ref ao), (4, .int x4)])
    (kk : ∀ (u w : g_S) (f : Nat → Int64) (H : Heap) (locs : List Loc) (ls : Array Slot), Rel u w → va_P D vwCl (lawW a b ao cA cL ((u, f), w)) H → va_S (rg (lawA a b ao) s.heap.size) s.heap H locs → lv_has ls 7 [(0, .ref sb), (1, .ref (a 0)), (2, .ref (b 0)), (3, .ref ao), (4, .int x4)] → W p l e room_1 s m #[Value.ref sb] below meth c H locs (cells + 1) (slots + 6) (lw_Z below #[Value.ref sb] s) (F0 m 904 ls [])) : W p l e room_1 s m #[Value.ref sb] below meth c H locs cells slots (lw_Z below #[Value.ref sb] s) (F0 m 383 ls []) := by
  obtain ⟨hx, hb, hr, hml, hown, hts0, hX, hbl, hlocks, hgv⟩ := id C0
  obtain ⟨hK, hn, hge, hgX⟩ := id C1
  have hts : ∀ w ∈ gT, w.before #[Value.ref sb] s = true := fun w h => hts0 w (List.mem_filter.mp h).1
  have hbA : ¬ rg (lawA a b ao) s.heap.size sb := law_nb hge hbl
  have hL31 : L < 2 ^ 31 := Nat.lt_of_le_of_lt hL (by decide)
  obtain ⟨rv, rz, h1, hc, h2, hR'⟩ := step_reasonFor hR ((xs (x4 + (1 : Int32)).toNatClampNeg)) ((xs (x4 + (2 : Int32)).toNatClampNeg)) ((xs (x4 + (3 : Int32)).toNatClampNeg)) ((xs (x4 + (4 : Int32)).toNatClampNeg)) ((xs (x4 + (5 : Int32)).toNatClampNeg)) ((xs (x4 + (6 : Int32)).toNatClampNeg))
  refine lv_aload_n hx hb dL_law_383 rfl (lv_at hl 1 rfl) ?_
  refine lv_aload_n hx hb dL_law_384 rfl (lv_at hl 0 rfl) ?_
  refine lv_iload hx hb dL_law_385 (lv_at hl 4 rfl) ?_
  refine lv_iconst (v := (1 : Int32)) hx hb dL_law_387 (by decide) ?_
  refine lv_iadd hx hb dL_law_388 ?_
  refine va_sld hx hb hX hbl hbA hS (law_ix (k := 1) ex4 (by omega) hL31) dL_law_389 ?_
  refine lv_aload_n hx hb dL_law_390 rfl (lv_at hl 0 rfl) ?_
  refine lv_iload hx hb dL_law_391 (lv_at hl 4 rfl) ?_
  refine lv_iconst (v := (2 : Int32)) hx hb dL_law_393 (by decide) ?_
  refine lv_iadd hx hb dL_law_394 ?_
  refine va_sld hx hb hX hbl hbA hS (law_ix (k := 2) ex4 (by omega) hL31) dL_law_395 ?_
  refine lv_aload_n hx hb dL_law_396 rfl (lv_at hl 0 rfl) ?_
  refine lv_iload hx hb dL_law_397 (lv_at hl 4 rfl) ?_
  refine lv_iconst (v := (3 : Int32)) hx hb dL_law_399 (by decide) ?_
  refine lv_iadd hx hb dL_law_400 ?_
  refine va_sld hx hb hX hbl hbA hS (law_ix (k := 3) ex4 (by omega) hL31) dL_law_401 ?_
  refine lv_aload_n hx hb dL_law_402 rfl (lv_at hl 0 rfl) ?_
  refine lv_iload hx hb dL_law_403 (lv_at hl 4 rfl) ?_
  refine lv_iconst (v := (4 : Int32)) hx hb dL_law_405 (by decide) ?_
  refine lv_iadd hx hb dL_law_406 ?_
  refine va_sld hx hb hX hbl hbA hS (law_ix (k := 4) ex4 (by omega) hL31) dL_law_407 ?_
  refine lv_aload_n hx hb dL_law_408 rfl (lv_at hl 0 rfl) ?_
  refine lv_iload hx hb dL_law_409 (lv_at hl 4 rfl) ?_
  refine lv_iconst (v := (5 : Int32)) hx hb dL_law_411 (by decide) ?_
  refine lv_iadd hx hb dL_law_412 ?_
  refine va_sld hx hb hX hbl hbA hS (law_ix (k := 5) ex4 (by omega) hL31) dL_law_413 ?_
  refine lv_aload_n hx hb dL_law_414 rfl (lv_at hl 0 rfl) ?_
  refine lv_iload hx hb dL_law_415 (lv_at hl 4 rfl) ?_
  refine lv_bipush (v := (6 : Int32)) hx hb dL_law_417 (by decide) ?_
  refine lv_iadd hx hb dL_law_419 ?_
  refine va_sld hx hb hX hbl hbA hS (law_ix (k := 6) ex4 (by omega) hL31) dL_law_420 ?_
  refine lv_aload_n hx hb dL_law_421 rfl (lv_at hl 3 rfl) ?_
  refine gs_ki (w2 := lawW a b ao cA cL ((rv.2.2, (if rv.1 = 0 then vp_updL f 0 (Int32.toInt64 rv.2.1) else f)), w)) hS law_le1 (vx_runSW (hh := [(0, 18, 21, 13), (0, 18, 25, 15)]) (As := [.ref (a 0), .int (xs (x4 + (1 : Int32)).toNatClampNeg), .int (xs (x4 + (2 : Int32)).toNatClampNeg), .int (xs (x4 + (3 : Int32)).toNatClampNeg), .int (xs (x4 + (4 : Int32)).toNatClampNeg), .int (xs (x4 + (5 : Int32)).toNatClampNeg), .int (xs (x4 + (6 : Int32)).toNatClampNeg), .ref ao]) (rest := []) ⟨hx, hb, hml, hown, hts⟩ (mL_reasonFor hl9 (D := D) (a := a) (ao := ao) (cA := cA) (cL := cL) (u := u) (f := f) h1 hc) (vx_cwSW 8 hts glaw_100 rfl rfl rfl (by decide +kernel) ⟨Nat.le_of_ble_eq_true rfl, Nat.le_of_ble_eq_true rfl⟩) (gs_preS gX_ok hK (law_n1 hn) hgX (gs_left hP) hS law_le1 [.ref (a 0), .int (xs (x4 + (1 : Int32)).toNatClampNeg), .int (xs (x4 + (2 : Int32)).toNatClampNeg), .int (xs (x4 + (3 : Int32)).toNatClampNeg), .int (xs (x4 + (4 : Int32)).toNatClampNeg), .int (xs (x4 + (5 : Int32)).toNatClampNeg), .int (xs (x4 + (6 : Int32)).toNatClampNeg), .ref ao]) rfl rfl hl.1 rfl (lv_room (Nat.le_of_ble_eq_true rfl)) dL_law_422 ⟨by show cells + 1 ≤ _; omega, by show slots + 6 ≤ _; omega⟩) (fun H1 h hk => gs_app h (gs_kept rfl (law_d1 hn) (gs_right hP) hk)) (fun H locs hP hS => ?_)
  refine lv_istore (lv' := [(5, .int (lwc [1, 2] rv.1)), (0, .ref sb), (1, .ref (a 0)), (2, .ref (b 0)), (3, .ref ao), (4, .int x4)]) hx hb dL_law_425 hl (by decide) rfl (fun ls hl => ?_)
  refine lv_aload_n hx hb dL_law_427 rfl (lv_at hl 3 rfl) ?_
  refine lv_aload_n hx hb dL_law_428 rfl (lv_at hl 1 rfl) ?_
  refine lv_iload hx hb dL_law_429 (lv_at hl 5 rfl) ?_
  refine lv_iconst (v := (1 : Int32)) hx hb dL_law_431 (by decide) ?_
  refine lv_iadd hx hb dL_law_432 ?_
  refine va_sld hx hb hX hbl hbA hS (law_ix (k := 1) ex4 (by omega) hL31) dL_law_433 ?_
  refine lv_aload_n hx hb dL_law_434 rfl (lv_at hl 1 rfl) ?_
  refine lv_iload hx hb dL_law_435 (lv_at hl 5 rfl) ?_
  refine lv_iconst (v := (2 : Int32)) hx hb dL_law_437 (by decide) ?_
  refine lv_iadd hx hb dL_law_438 ?_
  refine va_sld hx hb hX hbl hbA hS (law_ix (k := 2) ex4 (by omega) hL31) dL_law_439 ?_
  refine lv_aload_n hx hb dL_law_440 rfl (lv_at hl 1 rfl) ?_
  refine lv_iload hx hb dL_law_441 (lv_at hl 5 rfl) ?_
  refine lv_iconst (v := (3 : Int32)) hx hb dL_law_443 (by decide) ?_
  refine lv_iadd hx hb dL_law_444 ?_
  refine va_sld hx hb hX hbl hbA hS (law_ix (k := 3) ex4 (by omega) hL31) dL_law_445 ?_
  refine lv_aload_n hx hb dL_law_446 rfl (lv_at hl 1 rfl) ?_
  refine lv_iload hx hb dL_law_447 (lv_at hl 5 rfl) ?_
  refine lv_iconst (v := (4 : Int32)) hx hb dL_law_449 (by decide) ?_
  refine lv_iadd hx hb dL_law_450 ?_
  refine va_sld hx hb hX hbl hbA hS (law_ix (k := 4) ex4 (by omega) hL31) dL_law_451 ?_
  refine lv_aload_n hx hb dL_law_452 rfl (lv_at hl 1 rfl) ?_
  refine lv_iload hx hb dL_law_453 (lv_at hl 5 rfl) ?_
  refine lv_iconst (v := (5 : Int32)) hx hb dL_law_455 (by decide) ?_
  refine lv_iadd hx hb dL_law_456 ?_
  refine va_sld hx hb hX hbl hbA hS (law_ix (k := 5) ex4 (by omega) hL31) dL_law_457 ?_
  refine lv_aload_n hx hb dL_law_458 rfl (lv_at hl 1 rfl) ?_
  refine lv_iload hx hb dL_law_459 (lv_at hl 5 rfl) ?_
  refine lv_bipush (v := (6 : Int32)) hx hb dL_law_461 (by decide) ?_
  refine lv_iadd hx hb dL_law_463 ?_
  refine va_sld hx hb hX hbl hbA hS (law_ix (k := 6) ex4 (by omega) hL31) dL_law_464 ?_
  refine gs_ki (w2 := lawW a b ao cA cL ((rv.2.2, (if rv.1 = 0 then vp_updL f 0 (Int32.toInt64 rv.2.1) else f)), rz.2)) hS law_le2 (va_runV (As := [.int (xs (x4 + (1 : Int32)).toNatClampNeg), .int (xs (x4 + (2 : Int32)).toNatClampNeg), .int (xs (x4 + (3 : Int32)).toNatClampNeg), .int (xs (x4 + (4 : Int32)).toNatClampNeg), .int (xs (x4 + (5 : Int32)).toNatClampNeg), .int (xs (x4 + (6 : Int32)).toNatClampNeg)]) (rest := []) ⟨hx, hb, hml, hown, hts⟩ (mX6_reasonFor (D := D) (a := b) (cA := cA) (u := w) h2) (cwV 6 hts glaw_102 rfl rfl rfl (by decide +kernel) ⟨Nat.le_of_ble_eq_true rfl, Nat.le_of_ble_eq_true rfl⟩) (gs_preV (q0 := 0) (ci := 5) gY_ok (hK.sub (tys' := [(cA, .int)]) [0] rfl) (law_n2 hn) trivial (gs_right hP) hS law_le2 [.int (xs (x4 + (1 : Int32)).toNatClampNeg), .int (xs (x4 + (2 : Int32)).toNatClampNeg), .int (xs (x4 + (3 : Int32)).toNatClampNeg), .int (xs (x4 + (4 : Int32)).toNatClampNeg), .int (xs (x4 + (5 : Int32)).toNatClampNeg), .int (xs (x4 + (6 : Int32)).toNatClampNeg)] rfl rfl) rfl rfl hl.1 rfl (lv_room (Nat.le_of_ble_eq_true rfl)) dL_law_465 ⟨by omega, by omega⟩) (fun H1 h hk => gs_app (gs_kept rfl (law_d2 hn) (gs_left hP) hk) h) (fun H locs hP hS => ?_)
  refine lv_istore (lv' := [(6, .int rz.1), (5, .int (lwc [1, 2] rv.1)), (0, .ref sb), (1, .ref (a 0)), (2, .ref (b 0)), (3, .ref ao), (4, .int x4)]) hx hb dL_law_468 hl (by decide) rfl (fun ls hl => ?_)
  refine lv_goto (tgt := 904) hx hb dL_law_470 (by decide) ?_
  refine W.widen (k := cells + 1) (n := slots + 6) (by omega) (by omega) ?_
  exact kk rv.2.2 rz.2 (if rv.1 = 0 then vp_updL f 0 (Int32.toInt64 rv.2.1) else f) _ _ _ hR' hP hS (lv_sub hl [2, 3, 4, 5, 6] rfl)
set_option maxHeartbeats 4000000 in
theorem law_k5 {p : Program} {l : Launch} (hl9 : l.stackTraces = false) {e : Env} {s : State} {m : MethodId} {below : List Frame} {meth : Method} {c : Code} {D : va_G} {a b : Nat → Nat} {ao sb L : Nat} {cA cL : ClassId} {xs : Nat → Int32} (C0 : lw_At p s m meth c sb L xs) (C1 : law_C D a b ao cA cL s) {i : Nat} {x4 : Int32} (hi : i + 7 ≤ L) (hL : L ≤ lawN) (ex4 : x4 = nI i) {u w : g_S} {f : Nat → Int64} (hR : Rel u w) {cells slots : Nat} (hc9 : cells + 1 ≤ room_1.cells) (hs9 : slots + 6 ≤ room_1.slots) {H : Heap} {locs : List Loc} (hP : va_P D vwCl (lawW a b ao cA cL ((u, f), w)) H) (hS : va_S (rg (lawA a b ao) s.heap.size) s.heap H locs) {ls : Array Slot} (hl : lv_has ls 7 [(0, .ref sb), (1, .ref (a 0)), (2, .ref (b 0)), (3, .ref ao), (4, .int x4)])
    (kk : ∀ (u w : g_S) (f : Nat → Int64) (H : Heap) (locs : List Loc) (ls : Array Slot), Rel u w → va_P D vwCl (lawW a b ao cA cL ((u, f), w)) H → va_S (rg (lawA a b ao) s.heap.size) s.heap H locs → lv_has ls 7 [(0, .ref sb), (1, .ref (a 0)), (2, .ref (b 0)), (3, .ref ao), (4, .int x4)] → W p l e room_1 s m #[Value.ref sb] below meth c H locs (cells + 1) (slots + 6) (lw_Z below #[Value.ref sb] s) (F0 m 904 ls [])) : W p l e room_1 s m #[Value.ref sb] below meth c H locs cells slots (lw_Z below #[Value.ref sb] s) (F0 m 473 ls []) := by
  obtain ⟨hx, hb, hr, hml, hown, hts0, hX, hbl, hlocks, hgv⟩ := id C0
  obtain ⟨hK, hn, hge, hgX⟩ := id C1
  have hts : ∀ w ∈ gT, w.before #[Value.ref sb] s = true := fun w h => hts0 w (List.mem_filter.mp h).1
  have hbA : ¬ rg (lawA a b ao) s.heap.size sb := law_nb hge hbl
  have hL31 : L < 2 ^ 31 := Nat.lt_of_le_of_lt hL (by decide)
  obtain ⟨rv, rz, h1, hc, h2, hR'⟩ := step_mark hR ((xs (x4 + (1 : Int32)).toNatClampNeg)) ((xs (x4 + (2 : Int32)).toNatClampNeg))
  refine lv_aload_n hx hb dL_law_473 rfl (lv_at hl 1 rfl) ?_
  refine lv_aload_n hx hb dL_law_474 rfl (lv_at hl 0 rfl) ?_
  refine lv_iload hx hb dL_law_475 (lv_at hl 4 rfl) ?_
  refine lv_iconst (v := (1 : Int32)) hx hb dL_law_477 (by decide) ?_
  refine lv_iadd hx hb dL_law_478 ?_
  refine va_sld hx hb hX hbl hbA hS (law_ix (k := 1) ex4 (by omega) hL31) dL_law_479 ?_
  refine lv_aload_n hx hb dL_law_480 rfl (lv_at hl 0 rfl) ?_
  refine lv_iload hx hb dL_law_481 (lv_at hl 4 rfl) ?_
  refine lv_iconst (v := (2 : Int32)) hx hb dL_law_483 (by decide) ?_
  refine lv_iadd hx hb dL_law_484 ?_
  refine va_sld hx hb hX hbl hbA hS (law_ix (k := 2) ex4 (by omega) hL31) dL_law_485 ?_
  refine gs_ki (w2 := lawW a b ao cA cL ((rv.2, f), w)) hS law_le1 (vx_runSW (hh := [(0, 6, 9, 13), (0, 6, 12, 15)]) (As := [.ref (a 0), .int (xs (x4 + (1 : Int32)).toNatClampNeg), .int (xs (x4 + (2 : Int32)).toNatClampNeg)]) (rest := []) ⟨hx, hb, hml, hown, hts⟩ (mL_mark hl9 (D := D) (a := a) (ao := ao) (cA := cA) (cL := cL) (u := u) (f := f) h1 hc) (vx_cwSW 3 hts glaw_103 rfl rfl rfl (by decide +kernel) ⟨Nat.le_of_ble_eq_true rfl, Nat.le_of_ble_eq_true rfl⟩) (gs_preS gX_ok hK (law_n1 hn) hgX (gs_left hP) hS law_le1 [.ref (a 0), .int (xs (x4 + (1 : Int32)).toNatClampNeg), .int (xs (x4 + (2 : Int32)).toNatClampNeg)]) rfl rfl hl.1 rfl (lv_room (Nat.le_of_ble_eq_true rfl)) dL_law_486 ⟨by show cells + 1 ≤ _; omega, by show slots + 6 ≤ _; omega⟩) (fun H1 h hk => gs_app h (gs_kept rfl (law_d1 hn) (gs_right hP) hk)) (fun H locs hP hS => ?_)
  refine lv_istore (lv' := [(5, .int (lwc [1, 2] rv.1)), (0, .ref sb), (1, .ref (a 0)), (2, .ref (b 0)), (3, .ref ao), (4, .int x4)]) hx hb dL_law_489 hl (by decide) rfl (fun ls hl => ?_)
  refine lv_aload_n hx hb dL_law_491 rfl (lv_at hl 3 rfl) ?_
  refine lv_aload_n hx hb dL_law_492 rfl (lv_at hl 1 rfl) ?_
  refine lv_iload hx hb dL_law_493 (lv_at hl 5 rfl) ?_
  refine lv_iconst (v := (1 : Int32)) hx hb dL_law_495 (by decide) ?_
  refine lv_iadd hx hb dL_law_496 ?_
  refine va_sld hx hb hX hbl hbA hS (law_ix (k := 1) ex4 (by omega) hL31) dL_law_497 ?_
  refine lv_aload_n hx hb dL_law_498 rfl (lv_at hl 1 rfl) ?_
  refine lv_iload hx hb dL_law_499 (lv_at hl 5 rfl) ?_
  refine lv_iconst (v := (2 : Int32)) hx hb dL_law_501 (by decide) ?_
  refine lv_iadd hx hb dL_law_502 ?_
  refine va_sld hx hb hX hbl hbA hS (law_ix (k := 2) ex4 (by omega) hL31) dL_law_503 ?_
  refine gs_kv (w2 := lawW a b ao cA cL ((rv.2, f), rz)) hS law_le2 (va_runV (As := [.int (xs (x4 + (1 : Int32)).toNatClampNeg), .int (xs (x4 + (2 : Int32)).toNatClampNeg)]) (rest := []) ⟨hx, hb, hml, hown, hts⟩ (mX6_mark (D := D) (a := b) (cA := cA) (u := w) h2) (cwV 2 hts glaw_106 rfl rfl rfl (by decide +kernel) ⟨Nat.le_of_ble_eq_true rfl, Nat.le_of_ble_eq_true rfl⟩) (gs_preV (q0 := 0) (ci := 5) gY_ok (hK.sub (tys' := [(cA, .int)]) [0] rfl) (law_n2 hn) trivial (gs_right hP) hS law_le2 [.int (xs (x4 + (1 : Int32)).toNatClampNeg), .int (xs (x4 + (2 : Int32)).toNatClampNeg)] rfl rfl) rfl rfl hl.1 rfl (lv_room (Nat.le_of_ble_eq_true rfl)) dL_law_504 ⟨by omega, by omega⟩) (fun H1 h hk => gs_app (gs_kept rfl (law_d2 hn) (gs_left hP) hk) h) (fun H locs hP hS => ?_)
  refine lv_goto (tgt := 904) hx hb dL_law_507 (by decide) ?_
  refine W.widen (k := cells + 1) (n := slots + 6) (by omega) (by omega) ?_
  exact kk rv.2 rz f _ _ _ hR' hP hS (lv_sub hl [1, 2, 3, 4, 5] rfl)
set_option maxHeartbeats 4000000 in
theorem law_k6 {p : Program} {l : Launch} (hl9 : l.stackTraces = false) {e : Env} {s : State} {m : MethodId} {below : List Frame} {meth : Method} {c : Code} {D : va_G} {a b : Nat → Nat} {ao sb L : Nat} {cA cL : ClassId} {xs : Nat → Int32} (C0 : lw_At p s m meth c sb L xs) (C1 : law_C D a b ao cA cL s) {i : Nat} {x4 : Int32} (hi : i + 7 ≤ L) (hL : L ≤ lawN) (ex4 : x4 = nI i) {u w : g_S} {f : Nat → Int64} (hR : Rel u w) {cells slots : Nat} (hc9 : cells + 1 ≤ room_1.cells) (hs9 : slots + 6 ≤ room_1.slots) {H : Heap} {locs : List Loc} (hP : va_P D vwCl (lawW a b ao cA cL ((u, f), w)) H) (hS : va_S (rg (lawA a b ao) s.heap.size) s.heap H locs) {ls : Array Slot} (hl : lv_has ls 7 [(0, .ref sb), (1, .ref (a 0)), (2, .ref (b 0)), (3, .ref ao), (4, .int x4)])
    (kk : ∀ (u w : g_S) (f : Nat → Int64) (H : Heap) (locs : List Loc) (ls : Array Slot), Rel u w → va_P D vwCl (lawW a b ao cA cL ((u, f), w)) H → va_S (rg (lawA a b ao) s.heap.size) s.heap H locs → lv_has ls 7 [(0, .ref sb), (1, .ref (a 0)), (2, .ref (b 0)), (3, .ref ao), (4, .int x4)] → W p l e room_1 s m #[Value.ref sb] below meth c H locs (cells + 1) (slots + 6) (lw_Z below #[Value.ref sb] s) (F0 m 904 ls [])) : W p l e room_1 s m #[Value.ref sb] below meth c H locs cells slots (lw_Z below #[Value.ref sb] s) (F0 m 510 ls []) := by
  obtain ⟨hx, hb, hr, hml, hown, hts0, hX, hbl, hlocks, hgv⟩ := id C0
  obtain ⟨hK, hn, hge, hgX⟩ := id C1
  have hts : ∀ w ∈ gT, w.before #[Value.ref sb] s = true := fun w h => hts0 w (List.mem_filter.mp h).1
  have hbA : ¬ rg (lawA a b ao) s.heap.size sb := law_nb hge hbl
  have hL31 : L < 2 ^ 31 := Nat.lt_of_le_of_lt hL (by decide)
  obtain ⟨rv, rz, h1, hc, h2, hR'⟩ := step_split hR ((xs (x4 + (1 : Int32)).toNatClampNeg))
  refine lv_aload_n hx hb dL_law_510 rfl (lv_at hl 1 rfl) ?_
  refine lv_aload_n hx hb dL_law_511 rfl (lv_at hl 0 rfl) ?_
  refine lv_iload hx hb dL_law_512 (lv_at hl 4 rfl) ?_
  refine lv_iconst (v := (1 : Int32)) hx hb dL_law_514 (by decide) ?_
  refine lv_iadd hx hb dL_law_515 ?_
  refine va_sld hx hb hX hbl hbA hS (law_ix (k := 1) ex4 (by omega) hL31) dL_law_516 ?_
  refine lv_aload_n hx hb dL_law_517 rfl (lv_at hl 3 rfl) ?_
  refine gs_ki (w2 := lawW a b ao cA cL ((rv.2.2, (if rv.1 = 0 then vp_updL f 0 (Int32.toInt64 rv.2.1) else f)), w)) hS law_le1 (vx_runSW (hh := [(0, 9, 12, 13), (0, 9, 15, 42), (0, 9, 18, 25)]) (As := [.ref (a 0), .int (xs (x4 + (1 : Int32)).toNatClampNeg), .ref ao]) (rest := []) ⟨hx, hb, hml, hown, hts⟩ (mL_split hl9 (D := D) (a := a) (ao := ao) (cA := cA) (cL := cL) (u := u) (f := f) h1 hc) (vx_cwSW 3 hts glaw_107 rfl rfl rfl (by decide +kernel) ⟨Nat.le_of_ble_eq_true rfl, Nat.le_of_ble_eq_true rfl⟩) (gs_preS gX_ok hK (law_n1 hn) hgX (gs_left hP) hS law_le1 [.ref (a 0), .int (xs (x4 + (1 : Int32)).toNatClampNeg), .ref ao]) rfl rfl hl.1 rfl (lv_room (Nat.le_of_ble_eq_true rfl)) dL_law_518 ⟨by show cells + 1 ≤ _; omega, by show slots + 6 ≤ _; omega⟩) (fun H1 h hk => gs_app h (gs_kept rfl (law_d1 hn) (gs_right hP) hk)) (fun H locs hP hS => ?_)
  refine lv_istore (lv' := [(5, .int (lwc [1, 3, 4] rv.1)), (0, .ref sb), (1, .ref (a 0)), (2, .ref (b 0)), (3, .ref ao), (4, .int x4)]) hx hb dL_law_521 hl (by decide) rfl (fun ls hl => ?_)
  refine lv_aload_n hx hb dL_law_523 rfl (lv_at hl 3 rfl) ?_
  refine lv_aload_n hx hb dL_law_524 rfl (lv_at hl 1 rfl) ?_
  refine lv_iload hx hb dL_law_525 (lv_at hl 5 rfl) ?_
  refine lv_iconst (v := (1 : Int32)) hx hb dL_law_527 (by decide) ?_
  refine lv_iadd hx hb dL_law_528 ?_
  refine va_sld hx hb hX hbl hbA hS (law_ix (k := 1) ex4 (by omega) hL31) dL_law_529 ?_
  refine gs_ki (w2 := lawW a b ao cA cL ((rv.2.2, (if rv.1 = 0 then vp_updL f 0 (Int32.toInt64 rv.2.1) else f)), rz.2)) hS law_le2 (va_runV (As := [.int (xs (x4 + (1 : Int32)).toNatClampNeg)]) (rest := []) ⟨hx, hb, hml, hown, hts⟩ (mX6_split (D := D) (a := b) (cA := cA) (u := w) h2) (cwV 1 hts glaw_110 rfl rfl rfl (by decide +kernel) ⟨Nat.le_of_ble_eq_true rfl, Nat.le_of_ble_eq_true rfl⟩) (gs_preV (q0 := 0) (ci := 5) gY_ok (hK.sub (tys' := [(cA, .int)]) [0] rfl) (law_n2 hn) trivial (gs_right hP) hS law_le2 [.int (xs (x4 + (1 : Int32)).toNatClampNeg)] rfl rfl) rfl rfl hl.1 rfl (lv_room (Nat.le_of_ble_eq_true rfl)) dL_law_530 ⟨by omega, by omega⟩) (fun H1 h hk => gs_app (gs_kept rfl (law_d2 hn) (gs_left hP) hk) h) (fun H locs hP hS => ?_)
  refine lv_istore (lv' := [(6, .int rz.1), (5, .int (lwc [1, 3, 4] rv.1)), (0, .ref sb), (1, .ref (a 0)), (2, .ref (b 0)), (3, .ref ao), (4, .int x4)]) hx hb dL_law_533 hl (by decide) rfl (fun ls hl => ?_)
  refine lv_goto (tgt := 904) hx hb dL_law_535 (by decide) ?_
  refine W.widen (k := cells + 1) (n := slots + 6) (by omega) (by omega) ?_
  exact kk rv.2.2 rz.2 (if rv.1 = 0 then vp_updL f 0 (Int32.toInt64 rv.2.1) else f) _ _ _ hR' hP hS (lv_sub hl [2, 3, 4, 5, 6] rfl)
set_option maxHeartbeats 4000000 in
theorem law_k7 {p : Program} {l : Launch} (hl9 : l.stackTraces = false) {e : Env} {s : State} {m : MethodId} {below : List Frame} {meth : Method} {c : Code} {D : va_G} {a b : Nat → Nat} {ao sb L : Nat} {cA cL : ClassId} {xs : Nat → Int32} (C0 : lw_At p s m meth c sb L xs) (C1 : law_C D a b ao cA cL s) {i : Nat} {x4 : Int32} (hi : i + 7 ≤ L) (hL : L ≤ lawN) (ex4 : x4 = nI i) {u w : g_S} {f : Nat → Int64} (hR : Rel u w) {cells slots : Nat} (hc9 : cells + 1 ≤ room_1.cells) (hs9 : slots + 6 ≤ room_1.slots) {H : Heap} {locs : List Loc} (hP : va_P D vwCl (lawW a b ao cA cL ((u, f), w)) H) (hS : va_S (rg (lawA a b ao) s.heap.size) s.heap H locs) {ls : Array Slot} (hl : lv_has ls 7 [(0, .ref sb), (1, .ref (a 0)), (2, .ref (b 0)), (3, .ref ao), (4, .int x4)])
    (kk : ∀ (u w : g_S) (f : Nat → Int64) (H : Heap) (locs : List Loc) (ls : Array Slot), Rel u w → va_P D vwCl (lawW a b ao cA cL ((u, f), w)) H → va_S (rg (lawA a b ao) s.heap.size) s.heap H locs → lv_has ls 7 [(0, .ref sb), (1, .ref (a 0)), (2, .ref (b 0)), (3, .ref ao), (4, .int x4)] → W p l e room_1 s m #[Value.ref sb] below meth c H locs (cells + 1) (slots + 6) (lw_Z below #[Value.ref sb] s) (F0 m 904 ls [])) : W p l e room_1 s m #[Value.ref sb] below meth c H locs cells slots (lw_Z below #[Value.ref sb] s) (F0 m 538 ls []) := by
  obtain ⟨hx, hb, hr, hml, hown, hts0, hX, hbl, hlocks, hgv⟩ := id C0
  obtain ⟨hK, hn, hge, hgX⟩ := id C1
  have hts : ∀ w ∈ gT, w.before #[Value.ref sb] s = true := fun w h => hts0 w (List.mem_filter.mp h).1
  have hbA : ¬ rg (lawA a b ao) s.heap.size sb := law_nb hge hbl
  have hL31 : L < 2 ^ 31 := Nat.lt_of_le_of_lt hL (by decide)
  obtain ⟨rv, rz, h1, hc, h2, hR'⟩ := step_merge hR ((xs (x4 + (1 : Int32)).toNatClampNeg)) ((xs (x4 + (2 : Int32)).toNatClampNeg))
  refine lv_aload_n hx hb dL_law_538 rfl (lv_at hl 1 rfl) ?_
  refine lv_aload_n hx hb dL_law_539 rfl (lv_at hl 0 rfl) ?_
  refine lv_iload hx hb dL_law_540 (lv_at hl 4 rfl) ?_
  refine lv_iconst (v := (1 : Int32)) hx hb dL_law_542 (by decide) ?_
  refine lv_iadd hx hb dL_law_543 ?_
  refine va_sld hx hb hX hbl hbA hS (law_ix (k := 1) ex4 (by omega) hL31) dL_law_544 ?_
  refine lv_aload_n hx hb dL_law_545 rfl (lv_at hl 0 rfl) ?_
  refine lv_iload hx hb dL_law_546 (lv_at hl 4 rfl) ?_
  refine lv_iconst (v := (2 : Int32)) hx hb dL_law_548 (by decide) ?_
  refine lv_iadd hx hb dL_law_549 ?_
  refine va_sld hx hb hX hbl hbA hS (law_ix (k := 2) ex4 (by omega) hL31) dL_law_550 ?_
  refine lv_aload_n hx hb dL_law_551 rfl (lv_at hl 3 rfl) ?_
  refine gs_ki (w2 := lawW a b ao cA cL ((rv.2.2, (if rv.1 = 0 then vp_updL f 0 (Int32.toInt64 rv.2.1) else f)), w)) hS law_le1 (vx_runSW (hh := [(0, 10, 13, 13), (0, 10, 17, 42)]) (As := [.ref (a 0), .int (xs (x4 + (1 : Int32)).toNatClampNeg), .int (xs (x4 + (2 : Int32)).toNatClampNeg), .ref ao]) (rest := []) ⟨hx, hb, hml, hown, hts⟩ (mL_merge hl9 (D := D) (a := a) (ao := ao) (cA := cA) (cL := cL) (u := u) (f := f) h1 hc) (vx_cwSW 4 hts glaw_111 rfl rfl rfl (by decide +kernel) ⟨Nat.le_of_ble_eq_true rfl, Nat.le_of_ble_eq_true rfl⟩) (gs_preS gX_ok hK (law_n1 hn) hgX (gs_left hP) hS law_le1 [.ref (a 0), .int (xs (x4 + (1 : Int32)).toNatClampNeg), .int (xs (x4 + (2 : Int32)).toNatClampNeg), .ref ao]) rfl rfl hl.1 rfl (lv_room (Nat.le_of_ble_eq_true rfl)) dL_law_552 ⟨by show cells + 1 ≤ _; omega, by show slots + 6 ≤ _; omega⟩) (fun H1 h hk => gs_app h (gs_kept rfl (law_d1 hn) (gs_right hP) hk)) (fun H locs hP hS => ?_)
  refine lv_istore (lv' := [(5, .int (lwc [1, 3] rv.1)), (0, .ref sb), (1, .ref (a 0)), (2, .ref (b 0)), (3, .ref ao), (4, .int x4)]) hx hb dL_law_555 hl (by decide) rfl (fun ls hl => ?_)
  refine lv_aload_n hx hb dL_law_557 rfl (lv_at hl 3 rfl) ?_
  refine lv_aload_n hx hb dL_law_558 rfl (lv_at hl 1 rfl) ?_
  refine lv_iload hx hb dL_law_559 (lv_at hl 5 rfl) ?_
  refine lv_iconst (v := (1 : Int32)) hx hb dL_law_561 (by decide) ?_
  refine lv_iadd hx hb dL_law_562 ?_
  refine va_sld hx hb hX hbl hbA hS (law_ix (k := 1) ex4 (by omega) hL31) dL_law_563 ?_
  refine lv_aload_n hx hb dL_law_564 rfl (lv_at hl 1 rfl) ?_
  refine lv_iload hx hb dL_law_565 (lv_at hl 5 rfl) ?_
  refine lv_iconst (v := (2 : Int32)) hx hb dL_law_567 (by decide) ?_
  refine lv_iadd hx hb dL_law_568 ?_
  refine va_sld hx hb hX hbl hbA hS (law_ix (k := 2) ex4 (by omega) hL31) dL_law_569 ?_
  refine gs_ki (w2 := lawW a b ao cA cL ((rv.2.2, (if rv.1 = 0 then vp_updL f 0 (Int32.toInt64 rv.2.1) else f)), rz.2)) hS law_le2 (va_runV (As := [.int (xs (x4 + (1 : Int32)).toNatClampNeg), .int (xs (x4 + (2 : Int32)).toNatClampNeg)]) (rest := []) ⟨hx, hb, hml, hown, hts⟩ (mX6_merge (D := D) (a := b) (cA := cA) (u := w) h2) (cwV 2 hts glaw_113 rfl rfl rfl (by decide +kernel) ⟨Nat.le_of_ble_eq_true rfl, Nat.le_of_ble_eq_true rfl⟩) (gs_preV (q0 := 0) (ci := 5) gY_ok (hK.sub (tys' := [(cA, .int)]) [0] rfl) (law_n2 hn) trivial (gs_right hP) hS law_le2 [.int (xs (x4 + (1 : Int32)).toNatClampNeg), .int (xs (x4 + (2 : Int32)).toNatClampNeg)] rfl rfl) rfl rfl hl.1 rfl (lv_room (Nat.le_of_ble_eq_true rfl)) dL_law_570 ⟨by omega, by omega⟩) (fun H1 h hk => gs_app (gs_kept rfl (law_d2 hn) (gs_left hP) hk) h) (fun H locs hP hS => ?_)
  refine lv_istore (lv' := [(6, .int rz.1), (5, .int (lwc [1, 3] rv.1)), (0, .ref sb), (1, .ref (a 0)), (2, .ref (b 0)), (3, .ref ao), (4, .int x4)]) hx hb dL_law_573 hl (by decide) rfl (fun ls hl => ?_)
  refine lv_goto (tgt := 904) hx hb dL_law_575 (by decide) ?_
  refine W.widen (k := cells + 1) (n := slots + 6) (by omega) (by omega) ?_
  exact kk rv.2.2 rz.2 (if rv.1 = 0 then vp_updL f 0 (Int32.toInt64 rv.2.1) else f) _ _ _ hR' hP hS (lv_sub hl [2, 3, 4, 5, 6] rfl)
