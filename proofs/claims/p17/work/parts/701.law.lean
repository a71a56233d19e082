set_option maxHeartbeats 4000000 in
theorem law_k4 {p : Program} {l : Launch} (hl9 : l.stackTraces = false) {e : Env} {s : State} {m : MethodId} {below : List Frame} {meth : Method} {c : Code} {D : va_G} {a b : Nat → Nat} {ao sb L : Nat} {cA cL : ClassId} {xs : Nat → Int32} (C0 : lw_At p s m meth c sb L xs) (C1 : law_C D a b ao cA cL s) {i : Nat} {x4 : Int32} (hi : i + 7 ≤ L) (hL : L ≤ lawN) (ex4 : x4 = nI i) {u w : g_S} {f : Nat → Int64} (hR : Rel u w) {cells slots : Nat} (hc9 : cells + 1 ≤ room_1.cells) (hs9 : slots + 6 ≤ room_1.slots) {H : Heap} {locs : List Loc} (hP : va_P D vwCl (lawW a b ao cA cL ((u, f), w)) H) (hS : va_S (rg (lawA a b ao) s.heap.size) s.heap H locs) {ls : Array Slot} (hl : lv_has ls 7 [(0, .ref sb), (1, .ref (a 0)), (2, .ref (b 0)), (3, .ref ao), (4, .int x4)])
    (kk : ∀ (u w : g_S) (f : Nat → Int64) (H : Heap) (locs : List Loc) (ls : Array Slot), Rel u w → va_P D vwCl (lawW a b ao cA cL ((u, f), w)) H → va_S (rg (lawA a b ao) s.heap.size) s.heap H locs → lv_has ls 7 [(0, .ref sb), (1, .ref (a 0)), (2, .ref (b 0)), (3, .ref ao), (4, .int x4)] → W p l e room_1 s m #[Value.ref sb] below meth c H locs (cells + 1) (slots + 6) (lw_Z below #[Value.ref sb] s) (F0 m 921 ls [])) : W p l e room_1 s m #[Value.ref sb] below meth c H locs cells slots (lw_Z below #[Value.ref sb] s) (F0 m 372 ls []) := by
  obtain ⟨hx, hb, hr, hml, hown, hts0, hX, hbl, hlocks, hgv⟩ := id C0
  obtain ⟨hK, hn, hge, hgX⟩ := id C1
  have hts : ∀ w ∈ gT, w.before #[Value.ref sb] s = true := fun w h => hts0 w (List.mem_filter.mp h).1
  have hbA : ¬ rg (lawA a b ao) s.heap.size sb := law_nb hge hbl
  have hL31 : L < 2 ^ 31 := Nat.lt_of_le_of_lt hL (by decide)
  obtain ⟨rv, rz, h1, hc, h2, hR'⟩ := step_reasonFor hR ((xs (x4 + (1 : Int32)).toNatClampNeg)) ((xs (x4 + (2 : Int32)).toNatClampNeg)) ((xs (x4 + (3 : Int32)).toNatClampNeg)) ((xs (x4 + (4 : Int32)).toNatClampNeg)) ((xs (x4 + (5 : Int32)).toNatClampNeg)) ((xs (x4 + (6 : Int32)).toNatClampNeg))
  refine lv_aload_n hx hb dL_law_372 rfl (lv_at hl 1 rfl) ?_
  refine lv_aload_n hx hb dL_law_373 rfl (lv_at hl 0 rfl) ?_
  refine lv_iload hx hb dL_law_374 (lv_at hl 4 rfl) ?_
  refine lv_iconst (v := (1 : Int32)) hx hb dL_law_376 (by decide) ?_
  refine lv_iadd hx hb dL_law_377 ?_
  refine va_sld hx hb hX hbl hbA hS (law_ix (k := 1) ex4 (by omega) hL31) dL_law_378 ?_
  refine lv_aload_n hx hb dL_law_379 rfl (lv_at hl 0 rfl) ?_
  refine lv_iload hx hb dL_law_380 (lv_at hl 4 rfl) ?_
  refine lv_iconst (v := (2 : Int32)) hx hb dL_law_382 (by decide) ?_
  refine lv_iadd hx hb dL_law_383 ?_
  refine va_sld hx hb hX hbl hbA hS (law_ix (k := 2) ex4 (by omega) hL31) dL_law_384 ?_
  refine lv_aload_n hx hb dL_law_385 rfl (lv_at hl 0 rfl) ?_
  refine lv_iload hx hb dL_law_386 (lv_at hl 4 rfl) ?_
  refine lv_iconst (v := (3 : Int32)) hx hb dL_law_388 (by decide) ?_
  refine lv_iadd hx hb dL_law_389 ?_
  refine va_sld hx hb hX hbl hbA hS (law_ix (k := 3) ex4 (by omega) hL31) dL_law_390 ?_
  refine lv_aload_n hx hb dL_law_391 rfl (lv_at hl 0 rfl) ?_
  refine lv_iload hx hb dL_law_392 (lv_at hl 4 rfl) ?_
  refine lv_iconst (v := (4 : Int32)) hx hb dL_law_394 (by decide) ?_
  refine lv_iadd hx hb dL_law_395 ?_
  refine va_sld hx hb hX hbl hbA hS (law_ix (k := 4) ex4 (by omega) hL31) dL_law_396 ?_
  refine lv_aload_n hx hb dL_law_397 rfl (lv_at hl 0 rfl) ?_
  refine lv_iload hx hb dL_law_398 (lv_at hl 4 rfl) ?_
  refine lv_iconst (v := (5 : Int32)) hx hb dL_law_400 (by decide) ?_
  refine lv_iadd hx hb dL_law_401 ?_
  refine va_sld hx hb hX hbl hbA hS (law_ix (k := 5) ex4 (by omega) hL31) dL_law_402 ?_
  refine lv_aload_n hx hb dL_law_403 rfl (lv_at hl 0 rfl) ?_
  refine lv_iload hx hb dL_law_404 (lv_at hl 4 rfl) ?_
  refine lv_bipush (v := (6 : Int32)) hx hb dL_law_406 (by decide) ?_
  refine lv_iadd hx hb dL_law_408 ?_
  refine va_sld hx hb hX hbl hbA hS (law_ix (k := 6) ex4 (by omega) hL31) dL_law_409 ?_
  refine lv_aload_n hx hb dL_law_410 rfl (lv_at hl 3 rfl) ?_
  refine gs_ki (w2 := lawW a b ao cA cL ((rv.2.2, (if rv.1 = 0 then vp_updL f 0 (Int32.toInt64 rv.2.1) else f)), w)) hS law_le1 (vx_runSW (hh := [(0, 18, 21, 13), (0, 18, 25, 15)]) (As := [.ref (a 0), .int (xs (x4 + (1 : Int32)).toNatClampNeg), .int (xs (x4 + (2 : Int32)).toNatClampNeg), .int (xs (x4 + (3 : Int32)).toNatClampNeg), .int (xs (x4 + (4 : Int32)).toNatClampNeg), .int (xs (x4 + (5 : Int32)).toNatClampNeg), .int (xs (x4 + (6 : Int32)).toNatClampNeg), .ref ao]) (rest := []) ⟨hx, hb, hml, hown, hts⟩ (mL_reasonFor hl9 (D := D) (a := a) (ao := ao) (cA := cA) (cL := cL) (u := u) (f := f) h1 hc) (vx_cwSW 8 hts glaw_96 rfl rfl rfl (by decide +kernel) ⟨Nat.le_of_ble_eq_true rfl, Nat.le_of_ble_eq_true rfl⟩) (gs_preS gX_ok hK (law_n1 hn) hgX (gs_left hP) hS law_le1 [.ref (a 0), .int (xs (x4 + (1 : Int32)).toNatClampNeg), .int (xs (x4 + (2 : Int32)).toNatClampNeg), .int (xs (x4 + (3 : Int32)).toNatClampNeg), .int (xs (x4 + (4 : Int32)).toNatClampNeg), .int (xs (x4 + (5 : Int32)).toNatClampNeg), .int (xs (x4 + (6 : Int32)).toNatClampNeg), .ref ao]) rfl rfl hl.1 rfl (lv_room (Nat.le_of_ble_eq_true rfl)) dL_law_411 ⟨by show cells + 1 ≤ _; omega, by show slots + 6 ≤ _; omega⟩) (fun H1 h hk => gs_app h (gs_kept rfl (law_d1 hn) (gs_right hP) hk)) (fun H locs hP hS => ?_)
  refine lv_istore (lv' := [(5, .int (lwc [1, 2] rv.1)), (0, .ref sb), (1, .ref (a 0)), (2, .ref (b 0)), (3, .ref ao), (4, .int x4)]) hx hb dL_law_414 hl (by decide) rfl (fun ls hl => ?_)
  refine lv_aload_n hx hb dL_law_416 rfl (lv_at hl 3 rfl) ?_
  refine lv_aload_n hx hb dL_law_417 rfl (lv_at hl 1 rfl) ?_
  refine lv_iload hx hb dL_law_418 (lv_at hl 5 rfl) ?_
  refine lv_iconst (v := (1 : Int32)) hx hb dL_law_420 (by decide) ?_
  refine lv_iadd hx hb dL_law_421 ?_
  refine va_sld hx hb hX hbl hbA hS (law_ix (k := 1) ex4 (by omega) hL31) dL_law_422 ?_
  refine lv_aload_n hx hb dL_law_423 rfl (lv_at hl 1 rfl) ?_
  refine lv_iload hx hb dL_law_424 (lv_at hl 5 rfl) ?_
  refine lv_iconst (v := (2 : Int32)) hx hb dL_law_426 (by decide) ?_
  refine lv_iadd hx hb dL_law_427 ?_
  refine va_sld hx hb hX hbl hbA hS (law_ix (k := 2) ex4 (by omega) hL31) dL_law_428 ?_
  refine lv_aload_n hx hb dL_law_429 rfl (lv_at hl 1 rfl) ?_
  refine lv_iload hx hb dL_law_430 (lv_at hl 5 rfl) ?_
  refine lv_iconst (v := (3 : Int32)) hx hb dL_law_432 (by decide) ?_
  refine lv_iadd hx hb dL_law_433 ?_
  refine va_sld hx hb hX hbl hbA hS (law_ix (k := 3) ex4 (by omega) hL31) dL_law_434 ?_
  refine lv_aload_n hx hb dL_law_435 rfl (lv_at hl 1 rfl) ?_
  refine lv_iload hx hb dL_law_436 (lv_at hl 5 rfl) ?_
  refine lv_iconst (v := (4 : Int32)) hx hb dL_law_438 (by decide) ?_
  refine lv_iadd hx hb dL_law_439 ?_
  refine va_sld hx hb hX hbl hbA hS (law_ix (k := 4) ex4 (by omega) hL31) dL_law_440 ?_
  refine lv_aload_n hx hb dL_law_441 rfl (lv_at hl 1 rfl) ?_
  refine lv_iload hx hb dL_law_442 (lv_at hl 5 rfl) ?_
  refine lv_iconst (v := (5 : Int32)) hx hb dL_law_444 (by decide) ?_
  refine lv_iadd hx hb dL_law_445 ?_
  refine va_sld hx hb hX hbl hbA hS (law_ix (k := 5) ex4 (by omega) hL31) dL_law_446 ?_
  refine lv_aload_n hx hb dL_law_447 rfl (lv_at hl 1 rfl) ?_
  refine lv_iload hx hb dL_law_448 (lv_at hl 5 rfl) ?_
  refine lv_bipush (v := (6 : Int32)) hx hb dL_law_450 (by decide) ?_
  refine lv_iadd hx hb dL_law_452 ?_
  refine va_sld hx hb hX hbl hbA hS (law_ix (k := 6) ex4 (by omega) hL31) dL_law_453 ?_
  refine gs_ki (w2 := lawW a b ao cA cL ((rv.2.2, (if rv.1 = 0 then vp_updL f 0 (Int32.toInt64 rv.2.1) else f)), rz.2)) hS law_le2 (va_runV (As := [.int (xs (x4 + (1 : Int32)).toNatClampNeg), .int (xs (x4 + (2 : Int32)).toNatClampNeg), .int (xs (x4 + (3 : Int32)).toNatClampNeg), .int (xs (x4 + (4 : Int32)).toNatClampNeg), .int (xs (x4 + (5 : Int32)).toNatClampNeg), .int (xs (x4 + (6 : Int32)).toNatClampNeg)]) (rest := []) ⟨hx, hb, hml, hown, hts⟩ (mX6_reasonFor (D := D) (a := b) (cA := cA) (u := w) h2) (cwV 6 hts glaw_98 rfl rfl rfl (by decide +kernel) ⟨Nat.le_of_ble_eq_true rfl, Nat.le_of_ble_eq_true rfl⟩) (gs_preV (q0 := 0) (ci := 5) gY_ok (hK.sub (tys' := [(cA, .int)]) [0] rfl) (law_n2 hn) trivial (gs_right hP) hS law_le2 [.int (xs (x4 + (1 : Int32)).toNatClampNeg), .int (xs (x4 + (2 : Int32)).toNatClampNeg), .int (xs (x4 + (3 : Int32)).toNatClampNeg), .int (xs (x4 + (4 : Int32)).toNatClampNeg), .int (xs (x4 + (5 : Int32)).toNatClampNeg), .int (xs (x4 + (6 : Int32)).toNatClampNeg)] rfl rfl) rfl rfl hl.1 rfl (lv_room (Nat.le_of_ble_eq_true rfl)) dL_law_454 ⟨by omega, by omega⟩) (fun H1 h hk => gs_app (gs_kept rfl (law_d2 hn) (gs_left hP) hk) h) (fun H locs hP hS => ?_)
  refine lv_istore (lv' := [(6, .int rz.1), (5, .int (lwc [1, 2] rv.1)), (0, .ref sb), (1, .ref (a 0)), (2, .ref (b 0)), (3, .ref ao), (4, .int x4)]) hx hb dL_law_457 hl (by decide) rfl (fun ls hl => ?_)
  refine lv_goto (tgt := 921) hx hb dL_law_459 (by decide) ?_
  refine W.widen (k := cells + 1) (n := slots + 6) (by omega) (by omega) ?_
  exact kk rv.2.2 rz.2 (if rv.1 = 0 then vp_updL f 0 (Int32.toInt64 rv.2.1) else f) _ _ _ hR' hP hS (lv_sub hl [2, 3, 4, 5, 6] rfl)
set_option maxHeartbeats 4000000 in
theorem law_k5 {p : Program} {l : Launch} (hl9 : l.stackTraces = false) {e : Env} {s : State} {m : MethodId} {below : List Frame} {meth : Method} {c : Code} {D : va_G} {a b : Nat → Nat} {ao sb L : Nat} {cA cL : ClassId} {xs : Nat → Int32} (C0 : lw_At p s m meth c sb L xs) (C1 : law_C D a b ao cA cL s) {i : Nat} {x4 : Int32} (hi : i + 7 ≤ L) (hL : L ≤ lawN) (ex4 : x4 = nI i) {u w : g_S} {f : Nat → Int64} (hR : Rel u w) {cells slots : Nat} (hc9 : cells + 1 ≤ room_1.cells) (hs9 : slots + 6 ≤ room_1.slots) {H : Heap} {locs : List Loc} (hP : va_P D vwCl (lawW a b ao cA cL ((u, f), w)) H) (hS : va_S (rg (lawA a b ao) s.heap.size) s.heap H locs) {ls : Array Slot} (hl : lv_has ls 7 [(0, .ref sb), (1, .ref (a 0)), (2, .ref (b 0)), (3, .ref ao), (4, .int x4)])
    (kk : ∀ (u w : g_S) (f : Nat → Int64) (H : Heap) (locs : List Loc) (ls : Array Slot), Rel u w → va_P D vwCl (lawW a b ao cA cL ((u, f), w)) H → va_S (rg (lawA a b ao) s.heap.size) s.heap H locs → lv_has ls 7 [(0, .ref sb), (1, .ref (a 0)), (2, .ref (b 0)), (3, .ref ao), (4, .int x4)] → W p l e room_1 s m #[Value.ref sb] below meth c H locs (cells + 1) (slots + 6) (lw_Z below #[Value.ref sb] s) (F0 m 921 ls [])) : W p l e room_1 s m #[Value.ref sb] below meth c H locs cells slots (lw_Z below #[Value.ref sb] s) (F0 m 462 ls []) := by
  obtain ⟨hx, hb, hr, hml, hown, hts0, hX, hbl, hlocks, hgv⟩ := id C0
  obtain ⟨hK, hn, hge, hgX⟩ := id C1
  have hts : ∀ w ∈ gT, w.before #[Value.ref sb] s = true := fun w h => hts0 w (List.mem_filter.mp h).1
  have hbA : ¬ rg (lawA a b ao) s.heap.size sb := law_nb hge hbl
  have hL31 : L < 2 ^ 31 := Nat.lt_of_le_of_lt hL (by decide)
  obtain ⟨rv, rz, h1, hc, h2, hR'⟩ := step_mark hR ((xs (x4 + (1 : Int32)).toNatClampNeg)) ((xs (x4 + (2 : Int32)).toNatClampNeg))
  refine lv_aload_n hx hb dL_law_462 rfl (lv_at hl 1 rfl) ?_
  refine lv_aload_n hx hb dL_law_463 rfl (lv_at hl 0 rfl) ?_
  refine lv_iload hx hb dL_law_464 (lv_at hl 4 rfl) ?_
  refine lv_iconst (v := (1 : Int32)) hx hb dL_law_466 (by decide) ?_
  refine lv_iadd hx hb dL_law_467 ?_
  refine va_sld hx hb hX hbl hbA hS (law_ix (k := 1) ex4 (by omega) hL31) dL_law_468 ?_
  refine lv_aload_n hx hb dL_law_469 rfl (lv_at hl 0 rfl) ?_
  refine lv_iload hx hb dL_law_470 (lv_at hl 4 rfl) ?_
  refine lv_iconst (v := (2 : Int32)) hx hb dL_law_472 (by decide) ?_
  refine lv_iadd hx hb dL_law_473 ?_
  refine va_sld hx hb hX hbl hbA hS (law_ix (k := 2) ex4 (by omega) hL31) dL_law_474 ?_
  refine gs_ki (w2 := lawW a b ao cA cL ((rv.2, f), w)) hS law_le1 (vx_runSW (hh := [(0, 6, 9, 13), (0, 6, 12, 15)]) (As := [.ref (a 0), .int (xs (x4 + (1 : Int32)).toNatClampNeg), .int (xs (x4 + (2 : Int32)).toNatClampNeg)]) (rest := []) ⟨hx, hb, hml, hown, hts⟩ (mL_mark hl9 (D := D) (a := a) (ao := ao) (cA := cA) (cL := cL) (u := u) (f := f) h1 hc) (vx_cwSW 3 hts glaw_99 rfl rfl rfl (by decide +kernel) ⟨Nat.le_of_ble_eq_true rfl, Nat.le_of_ble_eq_true rfl⟩) (gs_preS gX_ok hK (law_n1 hn) hgX (gs_left hP) hS law_le1 [.ref (a 0), .int (xs (x4 + (1 : Int32)).toNatClampNeg), .int (xs (x4 + (2 : Int32)).toNatClampNeg)]) rfl rfl hl.1 rfl (lv_room (Nat.le_of_ble_eq_true rfl)) dL_law_475 ⟨by show cells + 1 ≤ _; omega, by show slots + 6 ≤ _; omega⟩) (fun H1 h hk => gs_app h (gs_kept rfl (law_d1 hn) (gs_right hP) hk)) (fun H locs hP hS => ?_)
  refine lv_istore (lv' := [(5, .int (lwc [1, 2] rv.1)), (0, .ref sb), (1, .ref (a 0)), (2, .ref (b 0)), (3, .ref ao), (4, .int x4)]) hx hb dL_law_478 hl (by decide) rfl (fun ls hl => ?_)
  refine lv_aload_n hx hb dL_law_480 rfl (lv_at hl 3 rfl) ?_
  refine lv_aload_n hx hb dL_law_481 rfl (lv_at hl 1 rfl) ?_
  refine lv_iload hx hb dL_law_482 (lv_at hl 5 rfl) ?_
  refine lv_iconst (v := (1 : Int32)) hx hb dL_law_484 (by decide) ?_
  refine lv_iadd hx hb dL_law_485 ?_
  refine va_sld hx hb hX hbl hbA hS (law_ix (k := 1) ex4 (by omega) hL31) dL_law_486 ?_
  refine lv_aload_n hx hb dL_law_487 rfl (lv_at hl 1 rfl) ?_
  refine lv_iload hx hb dL_law_488 (lv_at hl 5 rfl) ?_
  refine lv_iconst (v := (2 : Int32)) hx hb dL_law_490 (by decide) ?_
  refine lv_iadd hx hb dL_law_491 ?_
  refine va_sld hx hb hX hbl hbA hS (law_ix (k := 2) ex4 (by omega) hL31) dL_law_492 ?_
  refine gs_kv (w2 := lawW a b ao cA cL ((rv.2, f), rz)) hS law_le2 (va_runV (As := [.int (xs (x4 + (1 : Int32)).toNatClampNeg), .int (xs (x4 + (2 : Int32)).toNatClampNeg)]) (rest := []) ⟨hx, hb, hml, hown, hts⟩ (mX6_mark (D := D) (a := b) (cA := cA) (u := w) h2) (cwV 2 hts glaw_102 rfl rfl rfl (by decide +kernel) ⟨Nat.le_of_ble_eq_true rfl, Nat.le_of_ble_eq_true rfl⟩) (gs_preV (q0 := 0) (ci := 5) gY_ok (hK.sub (tys' := [(cA, .int)]) [0] rfl) (law_n2 hn) trivial (gs_right hP) hS law_le2 [.int (xs (x4 + (1 : Int32)).toNatClampNeg), .int (xs (x4 + (2 : Int32)).toNatClampNeg)] rfl rfl) rfl rfl hl.1 rfl (lv_room (Nat.le_of_ble_eq_true rfl)) dL_law_493 ⟨by omega, by omega⟩) (fun H1 h hk => gs_app (gs_kept rfl (law_d2 hn) (gs_left hP) hk) h) (fun H locs hP hS => ?_)
  refine lv_goto (tgt := 921) hx hb dL_law_496 (by decide) ?_
  refine W.widen (k := cells + 1) (n := slots + 6) (by omega) (by omega) ?_
  exact kk rv.2 rz f _ _ _ hR' hP hS (lv_sub hl [1, 2, 3, 4, 5] rfl)
set_option maxHeartbeats 4000000 in
theorem law_k6 {p : Program} {l : Launch} (hl9 : l.stackTraces = false) {e : Env} {s : State} {m : MethodId} {below : List Frame} {meth : Method} {c : Code} {D : va_G} {a b : Nat → Nat} {ao sb L : Nat} {cA cL : ClassId} {xs : Nat → Int32} (C0 : lw_At p s m meth c sb L xs) (C1 : law_C D a b ao cA cL s) {i : Nat} {x4 : Int32} (hi : i + 7 ≤ L) (hL : L ≤ lawN) (ex4 : x4 = nI i) {u w : g_S} {f : Nat → Int64} (hR : Rel u w) {cells slots : Nat} (hc9 : cells + 1 ≤ room_1.cells) (hs9 : slots + 6 ≤ room_1.slots) {H : Heap} {locs : List Loc} (hP : va_P D vwCl (lawW a b ao cA cL ((u, f), w)) H) (hS : va_S (rg (lawA a b ao) s.heap.size) s.heap H locs) {ls : Array Slot} (hl : lv_has ls 7 [(0, .ref sb), (1, .ref (a 0)), (2, .ref (b 0)), (3, .ref ao), (4, .int x4)])
    (kk : ∀ (u w : g_S) (f : Nat → Int64) (H : Heap) (locs : List Loc) (ls : Array Slot), Rel u w → va_P D vwCl (lawW a b ao cA cL ((u, f), w)) H → va_S (rg (lawA a b ao) s.heap.size) s.heap H locs → lv_has ls 7 [(0, .ref sb), (1, .ref (a 0)), (2, .ref (b 0)), (3, .ref ao), (4, .int x4)] → W p l e room_1 s m #[Value.ref sb] below meth c H locs (cells + 1) (slots + 6) (lw_Z below #[Value.ref sb] s) (F0 m 921 ls [])) : W p l e room_1 s m #[Value.ref sb] below meth c H locs cells slots (lw_Z below #[Value.ref sb] s) (F0 m 499 ls []) := by
  obtain ⟨hx, hb, hr, hml, hown, hts0, hX, hbl, hlocks, hgv⟩ := id C0
  obtain ⟨hK, hn, hge, hgX⟩ := id C1
  have hts : ∀ w ∈ gT, w.before #[Value.ref sb] s = true := fun w h => hts0 w (List.mem_filter.mp h).1
  have hbA : ¬ rg (lawA a b ao) s.heap.size sb := law_nb hge hbl
  have hL31 : L < 2 ^ 31 := Nat.lt_of_le_of_lt hL (by decide)
  obtain ⟨rv, rz, h1, hc, h2, hR'⟩ := step_split hR ((xs (x4 + (1 : Int32)).toNatClampNeg))
  refine lv_aload_n hx hb dL_law_499 rfl (lv_at hl 1 rfl) ?_
  refine lv_aload_n hx hb dL_law_500 rfl (lv_at hl 0 rfl) ?_
  refine lv_iload hx hb dL_law_501 (lv_at hl 4 rfl) ?_
  refine lv_iconst (v := (1 : Int32)) hx hb dL_law_503 (by decide) ?_
  refine lv_iadd hx hb dL_law_504 ?_
  refine va_sld hx hb hX hbl hbA hS (law_ix (k := 1) ex4 (by omega) hL31) dL_law_505 ?_
  refine lv_aload_n hx hb dL_law_506 rfl (lv_at hl 3 rfl) ?_
  refine gs_ki (w2 := lawW a b ao cA cL ((rv.2.2, (if rv.1 = 0 then vp_updL f 0 (Int32.toInt64 rv.2.1) else f)), w)) hS law_le1 (vx_runSW (hh := [(0, 9, 12, 13), (0, 9, 15, 42), (0, 9, 18, 25)]) (As := [.ref (a 0), .int (xs (x4 + (1 : Int32)).toNatClampNeg), .ref ao]) (rest := []) ⟨hx, hb, hml, hown, hts⟩ (mL_split hl9 (D := D) (a := a) (ao := ao) (cA := cA) (cL := cL) (u := u) (f := f) h1 hc) (vx_cwSW 3 hts glaw_103 rfl rfl rfl (by decide +kernel) ⟨Nat.le_of_ble_eq_true rfl, Nat.le_of_ble_eq_true rfl⟩) (gs_preS gX_ok hK (law_n1 hn) hgX (gs_left hP) hS law_le1 [.ref (a 0), .int (xs (x4 + (1 : Int32)).toNatClampNeg), .ref ao]) rfl rfl hl.1 rfl (lv_room (Nat.le_of_ble_eq_true rfl)) dL_law_507 ⟨by show cells + 1 ≤ _; omega, by show slots + 6 ≤ _; omega⟩) (fun H1 h hk => gs_app h (gs_kept rfl (law_d1 hn) (gs_right hP) hk)) (fun H locs hP hS => ?_)
  refine lv_istore (lv' := [(5, .int (lwc [1, 3, 4] rv.1)), (0, .ref sb), (1, .ref (a 0)), (2, .ref (b 0)), (3, .ref ao), (4, .int x4)]) hx hb dL_law_510 hl (by decide) rfl (fun ls hl => ?_)
  refine lv_aload_n hx hb dL_law_512 rfl (lv_at hl 3 rfl) ?_
  refine lv_aload_n hx hb dL_law_513 rfl (lv_at hl 1 rfl) ?_
  refine lv_iload hx hb dL_law_514 (lv_at hl 5 rfl) ?_
  refine lv_iconst (v := (1 : Int32)) hx hb dL_law_516 (by decide) ?_
  refine lv_iadd hx hb dL_law_517 ?_
  refine va_sld hx hb hX hbl hbA hS (law_ix (k := 1) ex4 (by omega) hL31) dL_law_518 ?_
  refine gs_ki (w2 := lawW a b ao cA cL ((rv.2.2, (if rv.1 = 0 then vp_updL f 0 (Int32.toInt64 rv.2.1) else f)), rz.2)) hS law_le2 (va_runV (As := [.int (xs (x4 + (1 : Int32)).toNatClampNeg)]) (rest := []) ⟨hx, hb, hml, hown, hts⟩ (mX6_split (D := D) (a := b) (cA := cA) (u := w) h2) (cwV 1 hts glaw_106 rfl rfl rfl (by decide +kernel) ⟨Nat.le_of_ble_eq_true rfl, Nat.le_of_ble_eq_true rfl⟩) (gs_preV (q0 := 0) (ci := 5) gY_ok (hK.sub (tys' := [(cA, .int)]) [0] rfl) (law_n2 hn) trivial (gs_right hP) hS law_le2 [.int (xs (x4 + (1 : Int32)).toNatClampNeg)] rfl rfl) rfl rfl hl.1 rfl (lv_room (Nat.le_of_ble_eq_true rfl)) dL_law_519 ⟨by omega, by omega⟩) (fun H1 h hk => gs_app (gs_kept rfl (law_d2 hn) (gs_left hP) hk) h) (fun H locs hP hS => ?_)
  refine lv_istore (lv' := [(6, .int rz.1), (5, .int (lwc [1, 3, 4] rv.1)), (0, .ref sb), (1, .ref (a 0)), (2, .ref (b 0)), (3, .ref ao), (4, .int x4)]) hx hb dL_law_522 hl (by decide) rfl (fun ls hl => ?_)
  refine lv_goto (tgt := 921) hx hb dL_law_524 (by decide) ?_
  refine W.widen (k := cells + 1) (n := slots + 6) (by omega) (by omega) ?_
  exact kk rv.2.2 rz.2 (if rv.1 = 0 then vp_updL f 0 (Int32.toInt64 rv.2.1) else f) _ _ _ hR' hP hS (lv_sub hl [2, 3, 4, 5, 6] rfl)
set_option maxHeartbeats 4000000 in
theorem law_k7 {p : Program} {l : Launch} (hl9 : l.stackTraces = false) {e : Env} {s : State} {m : MethodId} {below : List Frame} {meth : Method} {c : Code} {D : va_G} {a b : Nat → Nat} {ao sb L : Nat} {cA cL : ClassId} {xs : Nat → Int32} (C0 : lw_At p s m meth c sb L xs) (C1 : law_C D a b ao cA cL s) {i : Nat} {x4 : Int32} (hi : i + 7 ≤ L) (hL : L ≤ lawN) (ex4 : x4 = nI i) {u w : g_S} {f : Nat → Int64} (hR : Rel u w) {cells slots : Nat} (hc9 : cells + 1 ≤ room_1.cells) (hs9 : slots + 6 ≤ room_1.slots) {H : Heap} {locs : List Loc} (hP : va_P D vwCl (lawW a b ao cA cL ((u, f), w)) H) (hS : va_S (rg (lawA a b ao) s.heap.size) s.heap H locs) {ls : Array Slot} (hl : lv_has ls 7 [(0, .ref sb), (1, .ref (a 0)), (2, .ref (b 0)), (3, .ref ao), (4, .int x4)])
    (kk : ∀ (u w : g_S) (f : Nat → Int64) (H : Heap) (locs : List Loc) (ls : Array Slot), Rel u w → va_P D vwCl (lawW a b ao cA cL ((u, f), w)) H → va_S (rg (lawA a b ao) s.heap.size) s.heap H locs → lv_has ls 7 [(0, .ref sb), (1, .ref (a 0)), (2, .ref (b 0)), (3, .ref ao), (4, .int x4)] → W p l e room_1 s m #[Value.ref sb] below meth c H locs (cells + 1) (slots + 6) (lw_Z below #[Value.ref sb] s) (F0 m 921 ls [])) : W p l e room_1 s m #[Value.ref sb] below meth c H locs cells slots (lw_Z below #[Value.ref sb] s) (F0 m 527 ls []) := by
  obtain ⟨hx, hb, hr, hml, hown, hts0, hX, hbl, hlocks, hgv⟩ := id C0
  obtain ⟨hK, hn, hge, hgX⟩ := id C1
  have hts : ∀ w ∈ gT, w.before #[Value.ref sb] s = true := fun w h => hts0 w (List.mem_filter.mp h).1
  have hbA : ¬ rg (lawA a b ao) s.heap.size sb := law_nb hge hbl
  have hL31 : L < 2 ^ 31 := Nat.lt_of_le_of_lt hL (by decide)
  obtain ⟨rv, rz, h1, hc, h2, hR'⟩ := step_merge hR ((xs (x4 + (1 : Int32)).toNatClampNeg)) ((xs (x4 + (2 : Int32)).toNatClampNeg))
  refine lv_aload_n hx hb dL_law_527 rfl (lv_at hl 1 rfl) ?_
  refine lv_aload_n hx hb dL_law_528 rfl (lv_at hl 0 rfl) ?_
  refine lv_iload hx hb dL_law_529 (lv_at hl 4 rfl) ?_
  refine lv_iconst (v := (1 : Int32)) hx hb dL_law_531 (by decide) ?_
  refine lv_iadd hx hb dL_law_532 ?_
  refine va_sld hx hb hX hbl hbA hS (law_ix (k := 1) ex4 (by omega) hL31) dL_law_533 ?_
  refine lv_aload_n hx hb dL_law_534 rfl (lv_at hl 0 rfl) ?_
  refine lv_iload hx hb dL_law_535 (lv_at hl 4 rfl) ?_
  refine lv_iconst (v := (2 : Int32)) hx hb dL_law_537 (by decide) ?_
  refine lv_iadd hx hb dL_law_538 ?_
  refine va_sld hx hb hX hbl hbA hS (law_ix (k := 2) ex4 (by omega) hL31) dL_law_539 ?_
  refine lv_aload_n hx hb dL_law_540 rfl (lv_at hl 3 rfl) ?_
  refine gs_ki (w2 := lawW a b ao cA cL ((rv.2.2, (if rv.1 = 0 then vp_updL f 0 (Int32.toInt64 rv.2.1) else f)), w)) hS law_le1 (vx_runSW (hh := [(0, 10, 13, 13), (0, 10, 17, 42)]) (As := [.ref (a 0), .int (xs (x4 + (1 : Int32)).toNatClampNeg), .int (xs (x4 + (2 : Int32)).toNatClampNeg), .ref ao]) (rest := []) ⟨hx, hb, hml, hown, hts⟩ (mL_merge hl9 (D := D) (a := a) (ao := ao) (cA := cA) (cL := cL) (u := u) (f := f) h1 hc) (vx_cwSW 4 hts glaw_107 rfl rfl rfl (by decide +kernel) ⟨Nat.le_of_ble_eq_true rfl, Nat.le_of_ble_eq_true rfl⟩) (gs_preS gX_ok hK (law_n1 hn) hgX (gs_left hP) hS law_le1 [.ref (a 0), .int (xs (x4 + (1 : Int32)).toNatClampNeg), .int (xs (x4 + (2 : Int32)).toNatClampNeg), .ref ao]) rfl rfl hl.1 rfl (lv_room (Nat.le_of_ble_eq_true rfl)) dL_law_541 ⟨by show cells + 1 ≤ _; omega, by show slots + 6 ≤ _; omega⟩) (fun H1 h hk => gs_app h (gs_kept rfl (law_d1 hn) (gs_right hP) hk)) (fun H locs hP hS => ?_)
  refine lv_istore (lv' := [(5, .int (lwc [1, 3] rv.1)), (0, .ref sb), (1, .ref (a 0)), (2, .ref (b 0)), (3, .ref ao), (4, .int x4)]) hx hb dL_law_544 hl (by decide) rfl (fun ls hl => ?_)
  refine lv_aload_n hx hb dL_law_546 rfl (lv_at hl 3 rfl) ?_
  refine lv_aload_n hx hb dL_law_547 rfl (lv_at hl 1 rfl) ?_
  refine lv_iload hx hb dL_law_548 (lv_at hl 5 rfl) ?_
  refine lv_iconst (v := (1 : Int32)) hx hb dL_law_550 (by decide) ?_
  refine lv_iadd hx hb dL_law_551 ?_
  refine va_sld hx hb hX hbl hbA hS (law_ix (k := 1) ex4 (by omega) hL31) dL_law_552 ?_
  refine lv_aload_n hx hb dL_law_553 rfl (lv_at hl 1 rfl) ?_
  refine lv_iload hx hb dL_law_554 (lv_at hl 5 rfl) ?_
  refine lv_iconst (v := (2 : Int32)) hx hb dL_law_556 (by decide) ?_
  refine lv_iadd hx hb dL_law_557 ?_
  refine va_sld hx hb hX hbl hbA hS (law_ix (k := 2) ex4 (by omega) hL31) dL_law_558 ?_
  refine gs_ki (w2 := lawW a b ao cA cL ((rv.2.2, (if rv.1 = 0 then vp_updL f 0 (Int32.toInt64 rv.2.1) else f)), rz.2)) hS law_le2 (va_runV (As := [.int (xs (x4 + (1 : Int32)).toNatClampNeg), .int (xs (x4 + (2 : Int32)).toNatClampNeg)]) (rest := []) ⟨hx, hb, hml, hown, hts⟩ (mX6_merge (D := D) (a := b) (cA := cA) (u := w) h2) (cwV 2 hts glaw_109 rfl rfl rfl (by decide +kernel) ⟨Nat.le_of_ble_eq_true rfl, Nat.le_of_ble_eq_true rfl⟩) (gs_preV (q0 := 0) (ci := 5) gY_ok (hK.sub (tys' := [(cA, .int)]) [0] rfl) (law_n2 hn) trivial (gs_right hP) hS law_le2 [.int (xs (x4 + (1 : Int32)).toNatClampNeg), .int (xs (x4 + (2 : Int32)).toNatClampNeg)] rfl rfl) rfl rfl hl.1 rfl (lv_room (Nat.le_of_ble_eq_true rfl)) dL_law_559 ⟨by omega, by omega⟩) (fun H1 h hk => gs_app (gs_kept rfl (law_d2 hn) (gs_left hP) hk) h) (fun H locs hP hS => ?_)
  refine lv_istore (lv' := [(6, .int rz.1), (5, .int (lwc [1, 3] rv.1)), (0, .ref sb), (1, .ref (a 0)), (2, .ref (b 0)), (3, .ref ao), (4, .int x4)]) hx hb dL_law_562 hl (by decide) rfl (fun ls hl => ?_)
  refine lv_goto (tgt := 921) hx hb dL_law_564 (by decide) ?_
  refine W.widen (k := cells + 1) (n := slots + 6) (by omega) (by omega) ?_
  exact kk rv.2.2 rz.2 (if rv.1 = 0 then vp_updL f 0 (Int32.toInt64 rv.2.1) else f) _ _ _ hR' hP hS (lv_sub hl [2, 3, 4, 5, 6] rfl)
