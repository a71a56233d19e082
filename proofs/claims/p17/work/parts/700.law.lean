set_option maxHeartbeats 4000000 in
theorem law_k0 {p : Program} {l : Launch} (hl9 : l.stackTraces = false) {e : Env} {s : State} {m : MethodId} {below : List Frame} {meth : Method} {c : Code} {D : va_G} {a b : Nat → Nat} {ao sb L : Nat} {cA cL : ClassId} {xs : Nat → Int32} (C0 : lw_At p s m meth c sb L xs) (C1 : law_C D a b ao cA cL s) {i : Nat} {x4 : Int32} (hi : i + 7 ≤ L) (hL : L ≤ lawN) (ex4 : x4 = nI i) {u w : g_S} {f : Nat → Int64} (hR : Rel u w) {cells slots : Nat} (hc9 : cells + 1 ≤ room_1.cells) (hs9 : slots + 6 ≤ room_1.slots) {H : Heap} {locs : List Loc} (hP : va_P D vwCl (lawW a b ao cA cL ((u, f), w)) H) (hS : va_S (rg (lawA a b ao) s.heap.size) s.heap H locs) {ls : Array Slot} (hl : lv_has ls 7 [(0, .ref sb), (1, .ref (a 0)), (2, .ref (b 0)), (3, .ref ao), (4, .int x4)])
    (kk : ∀ (u w : g_S) (f : Nat → Int64) (H : Heap) (locs : List Loc) (ls : Array Slot), Rel u w → va_P D vwCl (lawW a b ao cA cL ((u, f), w)) H → va_S (rg (lawA a b ao) s.heap.size) s.heap H locs → lv_has ls 7 [(0, .ref sb), (1, .ref (a 0)), (2, .ref (b 0)), (3, .ref ao), (4, .int x4)] → W p l e room_1 s m #[Value.ref sb] below meth c H locs (cells + 1) (slots + 6) (lw_Z below #[Value.ref sb] s) (F0 m 921 ls [])) : W p l e room_1 s m #[Value.ref sb] below meth c H locs cells slots (lw_Z below #[Value.ref sb] s) (F0 m 120 ls []) := by
  obtain ⟨hx, hb, hr, hml, hown, hts0, hX, hbl, hlocks, hgv⟩ := id C0
  obtain ⟨hK, hn, hge, hgX⟩ := id C1
  have hts : ∀ w ∈ gT, w.before #[Value.ref sb] s = true := fun w h => hts0 w (List.mem_filter.mp h).1
  have hbA : ¬ rg (lawA a b ao) s.heap.size sb := law_nb hge hbl
  have hL31 : L < 2 ^ 31 := Nat.lt_of_le_of_lt hL (by decide)
  obtain ⟨rv, rz, h1, hc, h2, hR'⟩ := step_rule hR ((xs (x4 + (1 : Int32)).toNatClampNeg)) ((xs (x4 + (2 : Int32)).toNatClampNeg)) ((xs (x4 + (3 : Int32)).toNatClampNeg)) ((xs (x4 + (4 : Int32)).toNatClampNeg)) ((xs (x4 + (5 : Int32)).toNatClampNeg))
  refine lv_aload_n hx hb dL_law_120 rfl (lv_at hl 1 rfl) ?_
  refine lv_aload_n hx hb dL_law_121 rfl (lv_at hl 0 rfl) ?_
  refine lv_iload hx hb dL_law_122 (lv_at hl 4 rfl) ?_
  refine lv_iconst (v := (1 : Int32)) hx hb dL_law_124 (by decide) ?_
  refine lv_iadd hx hb dL_law_125 ?_
  refine va_sld hx hb hX hbl hbA hS (law_ix (k := 1) ex4 (by omega) hL31) dL_law_126 ?_
  refine lv_aload_n hx hb dL_law_127 rfl (lv_at hl 0 rfl) ?_
  refine lv_iload hx hb dL_law_128 (lv_at hl 4 rfl) ?_
  refine lv_iconst (v := (2 : Int32)) hx hb dL_law_130 (by decide) ?_
  refine lv_iadd hx hb dL_law_131 ?_
  refine va_sld hx hb hX hbl hbA hS (law_ix (k := 2) ex4 (by omega) hL31) dL_law_132 ?_
  refine lv_aload_n hx hb dL_law_133 rfl (lv_at hl 0 rfl) ?_
  refine lv_iload hx hb dL_law_134 (lv_at hl 4 rfl) ?_
  refine lv_iconst (v := (3 : Int32)) hx hb dL_law_136 (by decide) ?_
  refine lv_iadd hx hb dL_law_137 ?_
  refine va_sld hx hb hX hbl hbA hS (law_ix (k := 3) ex4 (by omega) hL31) dL_law_138 ?_
  refine lv_aload_n hx hb dL_law_139 rfl (lv_at hl 0 rfl) ?_
  refine lv_iload hx hb dL_law_140 (lv_at hl 4 rfl) ?_
  refine lv_iconst (v := (4 : Int32)) hx hb dL_law_142 (by decide) ?_
  refine lv_iadd hx hb dL_law_143 ?_
  refine va_sld hx hb hX hbl hbA hS (law_ix (k := 4) ex4 (by omega) hL31) dL_law_144 ?_
  refine lv_aload_n hx hb dL_law_145 rfl (lv_at hl 0 rfl) ?_
  refine lv_iload hx hb dL_law_146 (lv_at hl 4 rfl) ?_
  refine lv_iconst (v := (5 : Int32)) hx hb dL_law_148 (by decide) ?_
  refine lv_iadd hx hb dL_law_149 ?_
  refine va_sld hx hb hX hbl hbA hS (law_ix (k := 5) ex4 (by omega) hL31) dL_law_150 ?_
  refine gs_ki (w2 := lawW a b ao cA cL ((rv.2, f), w)) hS law_le1 (vx_runSW (hh := [(0, 11, 14, 13), (0, 11, 18, 15)]) (As := [.ref (a 0), .int (xs (x4 + (1 : Int32)).toNatClampNeg), .int (xs (x4 + (2 : Int32)).toNatClampNeg), .int (xs (x4 + (3 : Int32)).toNatClampNeg), .int (xs (x4 + (4 : Int32)).toNatClampNeg), .int (xs (x4 + (5 : Int32)).toNatClampNeg)]) (rest := []) ⟨hx, hb, hml, hown, hts⟩ (mL_rule hl9 (D := D) (a := a) (ao := ao) (cA := cA) (cL := cL) (u := u) (f := f) h1 hc) (vx_cwSW 6 hts glaw_78 rfl rfl rfl (by decide +kernel) ⟨Nat.le_of_ble_eq_true rfl, Nat.le_of_ble_eq_true rfl⟩) (gs_preS gX_ok hK (law_n1 hn) hgX (gs_left hP) hS law_le1 [.ref (a 0), .int (xs (x4 + (1 : Int32)).toNatClampNeg), .int (xs (x4 + (2 : Int32)).toNatClampNeg), .int (xs (x4 + (3 : Int32)).toNatClampNeg), .int (xs (x4 + (4 : Int32)).toNatClampNeg), .int (xs (x4 + (5 : Int32)).toNatClampNeg)]) rfl rfl hl.1 rfl (lv_room (Nat.le_of_ble_eq_true rfl)) dL_law_151 ⟨by show cells + 1 ≤ _; omega, by show slots + 6 ≤ _; omega⟩) (fun H1 h hk => gs_app h (gs_kept rfl (law_d1 hn) (gs_right hP) hk)) (fun H locs hP hS => ?_)
  refine lv_istore (lv' := [(5, .int (lwc [1, 2] rv.1)), (0, .ref sb), (1, .ref (a 0)), (2, .ref (b 0)), (3, .ref ao), (4, .int x4)]) hx hb dL_law_154 hl (by decide) rfl (fun ls hl => ?_)
  refine lv_aload_n hx hb dL_law_156 rfl (lv_at hl 3 rfl) ?_
  refine lv_aload_n hx hb dL_law_157 rfl (lv_at hl 1 rfl) ?_
  refine lv_iload hx hb dL_law_158 (lv_at hl 5 rfl) ?_
  refine lv_iconst (v := (1 : Int32)) hx hb dL_law_160 (by decide) ?_
  refine lv_iadd hx hb dL_law_161 ?_
  refine va_sld hx hb hX hbl hbA hS (law_ix (k := 1) ex4 (by omega) hL31) dL_law_162 ?_
  refine lv_aload_n hx hb dL_law_163 rfl (lv_at hl 1 rfl) ?_
  refine lv_iload hx hb dL_law_164 (lv_at hl 5 rfl) ?_
  refine lv_iconst (v := (2 : Int32)) hx hb dL_law_166 (by decide) ?_
  refine lv_iadd hx hb dL_law_167 ?_
  refine va_sld hx hb hX hbl hbA hS (law_ix (k := 2) ex4 (by omega) hL31) dL_law_168 ?_
  refine lv_aload_n hx hb dL_law_169 rfl (lv_at hl 1 rfl) ?_
  refine lv_iload hx hb dL_law_170 (lv_at hl 5 rfl) ?_
  refine lv_iconst (v := (3 : Int32)) hx hb dL_law_172 (by decide) ?_
  refine lv_iadd hx hb dL_law_173 ?_
  refine va_sld hx hb hX hbl hbA hS (law_ix (k := 3) ex4 (by omega) hL31) dL_law_174 ?_
  refine lv_aload_n hx hb dL_law_175 rfl (lv_at hl 1 rfl) ?_
  refine lv_iload hx hb dL_law_176 (lv_at hl 5 rfl) ?_
  refine lv_iconst (v := (4 : Int32)) hx hb dL_law_178 (by decide) ?_
  refine lv_iadd hx hb dL_law_179 ?_
  refine va_sld hx hb hX hbl hbA hS (law_ix (k := 4) ex4 (by omega) hL31) dL_law_180 ?_
  refine lv_aload_n hx hb dL_law_181 rfl (lv_at hl 1 rfl) ?_
  refine lv_iload hx hb dL_law_182 (lv_at hl 5 rfl) ?_
  refine lv_iconst (v := (5 : Int32)) hx hb dL_law_184 (by decide) ?_
  refine lv_iadd hx hb dL_law_185 ?_
  refine va_sld hx hb hX hbl hbA hS (law_ix (k := 5) ex4 (by omega) hL31) dL_law_186 ?_
  refine gs_kv (w2 := lawW a b ao cA cL ((rv.2, f), rz)) hS law_le2 (va_runV (As := [.int (xs (x4 + (1 : Int32)).toNatClampNeg), .int (xs (x4 + (2 : Int32)).toNatClampNeg), .int (xs (x4 + (3 : Int32)).toNatClampNeg), .int (xs (x4 + (4 : Int32)).toNatClampNeg), .int (xs (x4 + (5 : Int32)).toNatClampNeg)]) (rest := []) ⟨hx, hb, hml, hown, hts⟩ (mX6_rule (D := D) (a := b) (cA := cA) (u := w) h2) (cwV 5 hts glaw_83 rfl rfl rfl (by decide +kernel) ⟨Nat.le_of_ble_eq_true rfl, Nat.le_of_ble_eq_true rfl⟩) (gs_preV (q0 := 0) (ci := 5) gY_ok (hK.sub (tys' := [(cA, .int)]) [0] rfl) (law_n2 hn) trivial (gs_right hP) hS law_le2 [.int (xs (x4 + (1 : Int32)).toNatClampNeg), .int (xs (x4 + (2 : Int32)).toNatClampNeg), .int (xs (x4 + (3 : Int32)).toNatClampNeg), .int (xs (x4 + (4 : Int32)).toNatClampNeg), .int (xs (x4 + (5 : Int32)).toNatClampNeg)] rfl rfl) rfl rfl hl.1 rfl (lv_room (Nat.le_of_ble_eq_true rfl)) dL_law_187 ⟨by omega, by omega⟩) (fun H1 h hk => gs_app (gs_kept rfl (law_d2 hn) (gs_left hP) hk) h) (fun H locs hP hS => ?_)
  refine lv_goto (tgt := 921) hx hb dL_law_190 (by decide) ?_
  refine W.widen (k := cells + 1) (n := slots + 6) (by omega) (by omega) ?_
  exact kk rv.2 rz f _ _ _ hR' hP hS (lv_sub hl [1, 2, 3, 4, 5] rfl)
set_option maxHeartbeats 4000000 in
theorem law_k1 {p : Program} {l : Launch} (hl9 : l.stackTraces = false) {e : Env} {s : State} {m : MethodId} {below : List Frame} {meth : Method} {c : Code} {D : va_G} {a b : Nat → Nat} {ao sb L : Nat} {cA cL : ClassId} {xs : Nat → Int32} (C0 : lw_At p s m meth c sb L xs) (C1 : law_C D a b ao cA cL s) {i : Nat} {x4 : Int32} (hi : i + 7 ≤ L) (hL : L ≤ lawN) (ex4 : x4 = nI i) {u w : g_S} {f : Nat → Int64} (hR : Rel u w) {cells slots : Nat} (hc9 : cells + 1 ≤ room_1.cells) (hs9 : slots + 6 ≤ room_1.slots) {H : Heap} {locs : List Loc} (hP : va_P D vwCl (lawW a b ao cA cL ((u, f), w)) H) (hS : va_S (rg (lawA a b ao) s.heap.size) s.heap H locs) {ls : Array Slot} (hl : lv_has ls 7 [(0, .ref sb), (1, .ref (a 0)), (2, .ref (b 0)), (3, .ref ao), (4, .int x4)])
    (kk : ∀ (u w : g_S) (f : Nat → Int64) (H : Heap) (locs : List Loc) (ls : Array Slot), Rel u w → va_P D vwCl (lawW a b ao cA cL ((u, f), w)) H → va_S (rg (lawA a b ao) s.heap.size) s.heap H locs → lv_has ls 7 [(0, .ref sb), (1, .ref (a 0)), (2, .ref (b 0)), (3, .ref ao), (4, .int x4)] → W p l e room_1 s m #[Value.ref sb] below meth c H locs (cells + 1) (slots + 6) (lw_Z below #[Value.ref sb] s) (F0 m 921 ls [])) : W p l e room_1 s m #[Value.ref sb] below meth c H locs cells slots (lw_Z below #[Value.ref sb] s) (F0 m 193 ls []) := by
  obtain ⟨hx, hb, hr, hml, hown, hts0, hX, hbl, hlocks, hgv⟩ := id C0
  obtain ⟨hK, hn, hge, hgX⟩ := id C1
  have hts : ∀ w ∈ gT, w.before #[Value.ref sb] s = true := fun w h => hts0 w (List.mem_filter.mp h).1
  have hbA : ¬ rg (lawA a b ao) s.heap.size sb := law_nb hge hbl
  have hL31 : L < 2 ^ 31 := Nat.lt_of_le_of_lt hL (by decide)
  obtain ⟨rv, rz, h1, hc, h2, hR'⟩ := step_weight hR ((xs (x4 + (1 : Int32)).toNatClampNeg)) ((xs (x4 + (2 : Int32)).toNatClampNeg)) ((xs (x4 + (3 : Int32)).toNatClampNeg))
  refine lv_aload_n hx hb dL_law_193 rfl (lv_at hl 1 rfl) ?_
  refine lv_aload_n hx hb dL_law_194 rfl (lv_at hl 0 rfl) ?_
  refine lv_iload hx hb dL_law_195 (lv_at hl 4 rfl) ?_
  refine lv_iconst (v := (1 : Int32)) hx hb dL_law_197 (by decide) ?_
  refine lv_iadd hx hb dL_law_198 ?_
  refine va_sld hx hb hX hbl hbA hS (law_ix (k := 1) ex4 (by omega) hL31) dL_law_199 ?_
  refine lv_aload_n hx hb dL_law_200 rfl (lv_at hl 0 rfl) ?_
  refine lv_iload hx hb dL_law_201 (lv_at hl 4 rfl) ?_
  refine lv_iconst (v := (2 : Int32)) hx hb dL_law_203 (by decide) ?_
  refine lv_iadd hx hb dL_law_204 ?_
  refine va_sld hx hb hX hbl hbA hS (law_ix (k := 2) ex4 (by omega) hL31) dL_law_205 ?_
  refine lv_aload_n hx hb dL_law_206 rfl (lv_at hl 0 rfl) ?_
  refine lv_iload hx hb dL_law_207 (lv_at hl 4 rfl) ?_
  refine lv_iconst (v := (3 : Int32)) hx hb dL_law_209 (by decide) ?_
  refine lv_iadd hx hb dL_law_210 ?_
  refine va_sld hx hb hX hbl hbA hS (law_ix (k := 3) ex4 (by omega) hL31) dL_law_211 ?_
  refine gs_ki (w2 := lawW a b ao cA cL ((rv.2, f), w)) hS law_le1 (vx_runSW (hh := [(0, 7, 10, 13), (0, 7, 14, 15)]) (As := [.ref (a 0), .int (xs (x4 + (1 : Int32)).toNatClampNeg), .int (xs (x4 + (2 : Int32)).toNatClampNeg), .int (xs (x4 + (3 : Int32)).toNatClampNeg)]) (rest := []) ⟨hx, hb, hml, hown, hts⟩ (mL_weight hl9 (D := D) (a := a) (ao := ao) (cA := cA) (cL := cL) (u := u) (f := f) h1 hc) (vx_cwSW 4 hts glaw_84 rfl rfl rfl (by decide +kernel) ⟨Nat.le_of_ble_eq_true rfl, Nat.le_of_ble_eq_true rfl⟩) (gs_preS gX_ok hK (law_n1 hn) hgX (gs_left hP) hS law_le1 [.ref (a 0), .int (xs (x4 + (1 : Int32)).toNatClampNeg), .int (xs (x4 + (2 : Int32)).toNatClampNeg), .int (xs (x4 + (3 : Int32)).toNatClampNeg)]) rfl rfl hl.1 rfl (lv_room (Nat.le_of_ble_eq_true rfl)) dL_law_212 ⟨by show cells + 1 ≤ _; omega, by show slots + 6 ≤ _; omega⟩) (fun H1 h hk => gs_app h (gs_kept rfl (law_d1 hn) (gs_right hP) hk)) (fun H locs hP hS => ?_)
  refine lv_istore (lv' := [(5, .int (lwc [1, 2] rv.1)), (0, .ref sb), (1, .ref (a 0)), (2, .ref (b 0)), (3, .ref ao), (4, .int x4)]) hx hb dL_law_215 hl (by decide) rfl (fun ls hl => ?_)
  refine lv_aload_n hx hb dL_law_217 rfl (lv_at hl 3 rfl) ?_
  refine lv_aload_n hx hb dL_law_218 rfl (lv_at hl 1 rfl) ?_
  refine lv_iload hx hb dL_law_219 (lv_at hl 5 rfl) ?_
  refine lv_iconst (v := (1 : Int32)) hx hb dL_law_221 (by decide) ?_
  refine lv_iadd hx hb dL_law_222 ?_
  refine va_sld hx hb hX hbl hbA hS (law_ix (k := 1) ex4 (by omega) hL31) dL_law_223 ?_
  refine lv_aload_n hx hb dL_law_224 rfl (lv_at hl 1 rfl) ?_
  refine lv_iload hx hb dL_law_225 (lv_at hl 5 rfl) ?_
  refine lv_iconst (v := (2 : Int32)) hx hb dL_law_227 (by decide) ?_
  refine lv_iadd hx hb dL_law_228 ?_
  refine va_sld hx hb hX hbl hbA hS (law_ix (k := 2) ex4 (by omega) hL31) dL_law_229 ?_
  refine lv_aload_n hx hb dL_law_230 rfl (lv_at hl 1 rfl) ?_
  refine lv_iload hx hb dL_law_231 (lv_at hl 5 rfl) ?_
  refine lv_iconst (v := (3 : Int32)) hx hb dL_law_233 (by decide) ?_
  refine lv_iadd hx hb dL_law_234 ?_
  refine va_sld hx hb hX hbl hbA hS (law_ix (k := 3) ex4 (by omega) hL31) dL_law_235 ?_
  refine gs_kv (w2 := lawW a b ao cA cL ((rv.2, f), rz)) hS law_le2 (va_runV (As := [.int (xs (x4 + (1 : Int32)).toNatClampNeg), .int (xs (x4 + (2 : Int32)).toNatClampNeg), .int (xs (x4 + (3 : Int32)).toNatClampNeg)]) (rest := []) ⟨hx, hb, hml, hown, hts⟩ (mX6_weight (D := D) (a := b) (cA := cA) (u := w) h2) (cwV 3 hts glaw_87 rfl rfl rfl (by decide +kernel) ⟨Nat.le_of_ble_eq_true rfl, Nat.le_of_ble_eq_true rfl⟩) (gs_preV (q0 := 0) (ci := 5) gY_ok (hK.sub (tys' := [(cA, .int)]) [0] rfl) (law_n2 hn) trivial (gs_right hP) hS law_le2 [.int (xs (x4 + (1 : Int32)).toNatClampNeg), .int (xs (x4 + (2 : Int32)).toNatClampNeg), .int (xs (x4 + (3 : Int32)).toNatClampNeg)] rfl rfl) rfl rfl hl.1 rfl (lv_room (Nat.le_of_ble_eq_true rfl)) dL_law_236 ⟨by omega, by omega⟩) (fun H1 h hk => gs_app (gs_kept rfl (law_d2 hn) (gs_left hP) hk) h) (fun H locs hP hS => ?_)
  refine lv_goto (tgt := 921) hx hb dL_law_239 (by decide) ?_
  refine W.widen (k := cells + 1) (n := slots + 6) (by omega) (by omega) ?_
  exact kk rv.2 rz f _ _ _ hR' hP hS (lv_sub hl [1, 2, 3, 4, 5] rfl)
set_option maxHeartbeats 4000000 in
theorem law_k2 {p : Program} {l : Launch} (hl9 : l.stackTraces = false) {e : Env} {s : State} {m : MethodId} {below : List Frame} {meth : Method} {c : Code} {D : va_G} {a b : Nat → Nat} {ao sb L : Nat} {cA cL : ClassId} {xs : Nat → Int32} (C0 : lw_At p s m meth c sb L xs) (C1 : law_C D a b ao cA cL s) {i : Nat} {x4 : Int32} (hi : i + 7 ≤ L) (hL : L ≤ lawN) (ex4 : x4 = nI i) {u w : g_S} {f : Nat → Int64} (hR : Rel u w) {cells slots : Nat} (hc9 : cells + 1 ≤ room_1.cells) (hs9 : slots + 6 ≤ room_1.slots) {H : Heap} {locs : List Loc} (hP : va_P D vwCl (lawW a b ao cA cL ((u, f), w)) H) (hS : va_S (rg (lawA a b ao) s.heap.size) s.heap H locs) {ls : Array Slot} (hl : lv_has ls 7 [(0, .ref sb), (1, .ref (a 0)), (2, .ref (b 0)), (3, .ref ao), (4, .int x4)])
    (kk : ∀ (u w : g_S) (f : Nat → Int64) (H : Heap) (locs : List Loc) (ls : Array Slot), Rel u w → va_P D vwCl (lawW a b ao cA cL ((u, f), w)) H → va_S (rg (lawA a b ao) s.heap.size) s.heap H locs → lv_has ls 7 [(0, .ref sb), (1, .ref (a 0)), (2, .ref (b 0)), (3, .ref ao), (4, .int x4)] → W p l e room_1 s m #[Value.ref sb] below meth c H locs (cells + 1) (slots + 6) (lw_Z below #[Value.ref sb] s) (F0 m 921 ls [])) : W p l e room_1 s m #[Value.ref sb] below meth c H locs cells slots (lw_Z below #[Value.ref sb] s) (F0 m 242 ls []) := by
  obtain ⟨hx, hb, hr, hml, hown, hts0, hX, hbl, hlocks, hgv⟩ := id C0
  obtain ⟨hK, hn, hge, hgX⟩ := id C1
  have hts : ∀ w ∈ gT, w.before #[Value.ref sb] s = true := fun w h => hts0 w (List.mem_filter.mp h).1
  have hbA : ¬ rg (lawA a b ao) s.heap.size sb := law_nb hge hbl
  have hL31 : L < 2 ^ 31 := Nat.lt_of_le_of_lt hL (by decide)
  obtain ⟨rv, rz, h1, hc, h2, hR'⟩ := step_point hR ((xs (x4 + (1 : Int32)).toNatClampNeg)) ((xs (x4 + (2 : Int32)).toNatClampNeg))
  refine lv_aload_n hx hb dL_law_242 rfl (lv_at hl 1 rfl) ?_
  refine lv_aload_n hx hb dL_law_243 rfl (lv_at hl 0 rfl) ?_
  refine lv_iload hx hb dL_law_244 (lv_at hl 4 rfl) ?_
  refine lv_iconst (v := (1 : Int32)) hx hb dL_law_246 (by decide) ?_
  refine lv_iadd hx hb dL_law_247 ?_
  refine va_sld hx hb hX hbl hbA hS (law_ix (k := 1) ex4 (by omega) hL31) dL_law_248 ?_
  refine lv_aload_n hx hb dL_law_249 rfl (lv_at hl 0 rfl) ?_
  refine lv_iload hx hb dL_law_250 (lv_at hl 4 rfl) ?_
  refine lv_iconst (v := (2 : Int32)) hx hb dL_law_252 (by decide) ?_
  refine lv_iadd hx hb dL_law_253 ?_
  refine va_sld hx hb hX hbl hbA hS (law_ix (k := 2) ex4 (by omega) hL31) dL_law_254 ?_
  refine lv_aload_n hx hb dL_law_255 rfl (lv_at hl 3 rfl) ?_
  refine gs_ki (w2 := lawW a b ao cA cL ((rv.2.2, (if rv.1 = 0 then vp_updL f 0 (Int32.toInt64 rv.2.1) else f)), w)) hS law_le1 (vx_runSW (hh := [(0, 10, 13, 13), (0, 10, 17, 15), (0, 10, 21, 25)]) (As := [.ref (a 0), .int (xs (x4 + (1 : Int32)).toNatClampNeg), .int (xs (x4 + (2 : Int32)).toNatClampNeg), .ref ao]) (rest := []) ⟨hx, hb, hml, hown, hts⟩ (mL_point hl9 (D := D) (a := a) (ao := ao) (cA := cA) (cL := cL) (u := u) (f := f) h1 hc) (vx_cwSW 4 hts glaw_88 rfl rfl rfl (by decide +kernel) ⟨Nat.le_of_ble_eq_true rfl, Nat.le_of_ble_eq_true rfl⟩) (gs_preS gX_ok hK (law_n1 hn) hgX (gs_left hP) hS law_le1 [.ref (a 0), .int (xs (x4 + (1 : Int32)).toNatClampNeg), .int (xs (x4 + (2 : Int32)).toNatClampNeg), .ref ao]) rfl rfl hl.1 rfl (lv_room (Nat.le_of_ble_eq_true rfl)) dL_law_256 ⟨by show cells + 1 ≤ _; omega, by show slots + 6 ≤ _; omega⟩) (fun H1 h hk => gs_app h (gs_kept rfl (law_d1 hn) (gs_right hP) hk)) (fun H locs hP hS => ?_)
  refine lv_istore (lv' := [(5, .int (lwc [1, 2, 4] rv.1)), (0, .ref sb), (1, .ref (a 0)), (2, .ref (b 0)), (3, .ref ao), (4, .int x4)]) hx hb dL_law_259 hl (by decide) rfl (fun ls hl => ?_)
  refine lv_aload_n hx hb dL_law_261 rfl (lv_at hl 3 rfl) ?_
  refine lv_aload_n hx hb dL_law_262 rfl (lv_at hl 1 rfl) ?_
  refine lv_iload hx hb dL_law_263 (lv_at hl 5 rfl) ?_
  refine lv_iconst (v := (1 : Int32)) hx hb dL_law_265 (by decide) ?_
  refine lv_iadd hx hb dL_law_266 ?_
  refine va_sld hx hb hX hbl hbA hS (law_ix (k := 1) ex4 (by omega) hL31) dL_law_267 ?_
  refine lv_aload_n hx hb dL_law_268 rfl (lv_at hl 1 rfl) ?_
  refine lv_iload hx hb dL_law_269 (lv_at hl 5 rfl) ?_
  refine lv_iconst (v := (2 : Int32)) hx hb dL_law_271 (by decide) ?_
  refine lv_iadd hx hb dL_law_272 ?_
  refine va_sld hx hb hX hbl hbA hS (law_ix (k := 2) ex4 (by omega) hL31) dL_law_273 ?_
  refine gs_ki (w2 := lawW a b ao cA cL ((rv.2.2, (if rv.1 = 0 then vp_updL f 0 (Int32.toInt64 rv.2.1) else f)), rz.2)) hS law_le2 (va_runV (As := [.int (xs (x4 + (1 : Int32)).toNatClampNeg), .int (xs (x4 + (2 : Int32)).toNatClampNeg)]) (rest := []) ⟨hx, hb, hml, hown, hts⟩ (mX6_point (D := D) (a := b) (cA := cA) (u := w) h2) (cwV 2 hts glaw_91 rfl rfl rfl (by decide +kernel) ⟨Nat.le_of_ble_eq_true rfl, Nat.le_of_ble_eq_true rfl⟩) (gs_preV (q0 := 0) (ci := 5) gY_ok (hK.sub (tys' := [(cA, .int)]) [0] rfl) (law_n2 hn) trivial (gs_right hP) hS law_le2 [.int (xs (x4 + (1 : Int32)).toNatClampNeg), .int (xs (x4 + (2 : Int32)).toNatClampNeg)] rfl rfl) rfl rfl hl.1 rfl (lv_room (Nat.le_of_ble_eq_true rfl)) dL_law_274 ⟨by omega, by omega⟩) (fun H1 h hk => gs_app (gs_kept rfl (law_d2 hn) (gs_left hP) hk) h) (fun H locs hP hS => ?_)
  refine lv_istore (lv' := [(6, .int rz.1), (5, .int (lwc [1, 2, 4] rv.1)), (0, .ref sb), (1, .ref (a 0)), (2, .ref (b 0)), (3, .ref ao), (4, .int x4)]) hx hb dL_law_277 hl (by decide) rfl (fun ls hl => ?_)
  refine lv_goto (tgt := 921) hx hb dL_law_279 (by decide) ?_
  refine W.widen (k := cells + 1) (n := slots + 6) (by omega) (by omega) ?_
  exact kk rv.2.2 rz.2 (if rv.1 = 0 then vp_updL f 0 (Int32.toInt64 rv.2.1) else f) _ _ _ hR' hP hS (lv_sub hl [2, 3, 4, 5, 6] rfl)
set_option maxHeartbeats 4000000 in
theorem law_k3 {p : Program} {l : Launch} (hl9 : l.stackTraces = false) {e : Env} {s : State} {m : MethodId} {below : List Frame} {meth : Method} {c : Code} {D : va_G} {a b : Nat → Nat} {ao sb L : Nat} {cA cL : ClassId} {xs : Nat → Int32} (C0 : lw_At p s m meth c sb L xs) (C1 : law_C D a b ao cA cL s) {i : Nat} {x4 : Int32} (hi : i + 7 ≤ L) (hL : L ≤ lawN) (ex4 : x4 = nI i) {u w : g_S} {f : Nat → Int64} (hR : Rel u w) {cells slots : Nat} (hc9 : cells + 1 ≤ room_1.cells) (hs9 : slots + 6 ≤ room_1.slots) {H : Heap} {locs : List Loc} (hP : va_P D vwCl (lawW a b ao cA cL ((u, f), w)) H) (hS : va_S (rg (lawA a b ao) s.heap.size) s.heap H locs) {ls : Array Slot} (hl : lv_has ls 7 [(0, .ref sb), (1, .ref (a 0)), (2, .ref (b 0)), (3, .ref ao), (4, .int x4)])
    (kk : ∀ (u w : g_S) (f : Nat → Int64) (H : Heap) (locs : List Loc) (ls : Array Slot), Rel u w → va_P D vwCl (lawW a b ao cA cL ((u, f), w)) H → va_S (rg (lawA a b ao) s.heap.size) s.heap H locs → lv_has ls 7 [(0, .ref sb), (1, .ref (a 0)), (2, .ref (b 0)), (3, .ref ao), (4, .int x4)] → W p l e room_1 s m #[Value.ref sb] below meth c H locs (cells + 1) (slots + 6) (lw_Z below #[Value.ref sb] s) (F0 m 921 ls [])) : W p l e room_1 s m #[Value.ref sb] below meth c H locs cells slots (lw_Z below #[Value.ref sb] s) (F0 m 282 ls []) := by
  obtain ⟨hx, hb, hr, hml, hown, hts0, hX, hbl, hlocks, hgv⟩ := id C0
  obtain ⟨hK, hn, hge, hgX⟩ := id C1
  have hts : ∀ w ∈ gT, w.before #[Value.ref sb] s = true := fun w h => hts0 w (List.mem_filter.mp h).1
  have hbA : ¬ rg (lawA a b ao) s.heap.size sb := law_nb hge hbl
  have hL31 : L < 2 ^ 31 := Nat.lt_of_le_of_lt hL (by decide)
  obtain ⟨rv, rz, h1, hc, h2, hR'⟩ := step_call hR ((xs (x4 + (1 : Int32)).toNatClampNeg)) ((xs (x4 + (2 : Int32)).toNatClampNeg)) ((xs (x4 + (3 : Int32)).toNatClampNeg)) ((xs (x4 + (4 : Int32)).toNatClampNeg)) ((xs (x4 + (5 : Int32)).toNatClampNeg)) ((xs (x4 + (6 : Int32)).toNatClampNeg))
  refine lv_aload_n hx hb dL_law_282 rfl (lv_at hl 1 rfl) ?_
  refine lv_aload_n hx hb dL_law_283 rfl (lv_at hl 0 rfl) ?_
  refine lv_iload hx hb dL_law_284 (lv_at hl 4 rfl) ?_
  refine lv_iconst (v := (1 : Int32)) hx hb dL_law_286 (by decide) ?_
  refine lv_iadd hx hb dL_law_287 ?_
  refine va_sld hx hb hX hbl hbA hS (law_ix (k := 1) ex4 (by omega) hL31) dL_law_288 ?_
  refine lv_aload_n hx hb dL_law_289 rfl (lv_at hl 0 rfl) ?_
  refine lv_iload hx hb dL_law_290 (lv_at hl 4 rfl) ?_
  refine lv_iconst (v := (2 : Int32)) hx hb dL_law_292 (by decide) ?_
  refine lv_iadd hx hb dL_law_293 ?_
  refine va_sld hx hb hX hbl hbA hS (law_ix (k := 2) ex4 (by omega) hL31) dL_law_294 ?_
  refine lv_aload_n hx hb dL_law_295 rfl (lv_at hl 0 rfl) ?_
  refine lv_iload hx hb dL_law_296 (lv_at hl 4 rfl) ?_
  refine lv_iconst (v := (3 : Int32)) hx hb dL_law_298 (by decide) ?_
  refine lv_iadd hx hb dL_law_299 ?_
  refine va_sld hx hb hX hbl hbA hS (law_ix (k := 3) ex4 (by omega) hL31) dL_law_300 ?_
  refine lv_aload_n hx hb dL_law_301 rfl (lv_at hl 0 rfl) ?_
  refine lv_iload hx hb dL_law_302 (lv_at hl 4 rfl) ?_
  refine lv_iconst (v := (4 : Int32)) hx hb dL_law_304 (by decide) ?_
  refine lv_iadd hx hb dL_law_305 ?_
  refine va_sld hx hb hX hbl hbA hS (law_ix (k := 4) ex4 (by omega) hL31) dL_law_306 ?_
  refine lv_aload_n hx hb dL_law_307 rfl (lv_at hl 0 rfl) ?_
  refine lv_iload hx hb dL_law_308 (lv_at hl 4 rfl) ?_
  refine lv_iconst (v := (5 : Int32)) hx hb dL_law_310 (by decide) ?_
  refine lv_iadd hx hb dL_law_311 ?_
  refine va_sld hx hb hX hbl hbA hS (law_ix (k := 5) ex4 (by omega) hL31) dL_law_312 ?_
  refine lv_aload_n hx hb dL_law_313 rfl (lv_at hl 0 rfl) ?_
  refine lv_iload hx hb dL_law_314 (lv_at hl 4 rfl) ?_
  refine lv_bipush (v := (6 : Int32)) hx hb dL_law_316 (by decide) ?_
  refine lv_iadd hx hb dL_law_318 ?_
  refine va_sld hx hb hX hbl hbA hS (law_ix (k := 6) ex4 (by omega) hL31) dL_law_319 ?_
  refine lv_aload_n hx hb dL_law_320 rfl (lv_at hl 3 rfl) ?_
  refine gs_ki (w2 := lawW a b ao cA cL ((rv.2.2, (if rv.1 = 0 then vp_updL f 0 (Int32.toInt64 rv.2.1) else f)), w)) hS law_le1 (vx_runSW (hh := [(0, 18, 21, 13), (0, 18, 25, 15), (0, 18, 29, 25)]) (As := [.ref (a 0), .int (xs (x4 + (1 : Int32)).toNatClampNeg), .int (xs (x4 + (2 : Int32)).toNatClampNeg), .int (xs (x4 + (3 : Int32)).toNatClampNeg), .int (xs (x4 + (4 : Int32)).toNatClampNeg), .int (xs (x4 + (5 : Int32)).toNatClampNeg), .int (xs (x4 + (6 : Int32)).toNatClampNeg), .ref ao]) (rest := []) ⟨hx, hb, hml, hown, hts⟩ (mL_call hl9 (D := D) (a := a) (ao := ao) (cA := cA) (cL := cL) (u := u) (f := f) h1 hc) (vx_cwSW 8 hts glaw_92 rfl rfl rfl (by decide +kernel) ⟨Nat.le_of_ble_eq_true rfl, Nat.le_of_ble_eq_true rfl⟩) (gs_preS gX_ok hK (law_n1 hn) hgX (gs_left hP) hS law_le1 [.ref (a 0), .int (xs (x4 + (1 : Int32)).toNatClampNeg), .int (xs (x4 + (2 : Int32)).toNatClampNeg), .int (xs (x4 + (3 : Int32)).toNatClampNeg), .int (xs (x4 + (4 : Int32)).toNatClampNeg), .int (xs (x4 + (5 : Int32)).toNatClampNeg), .int (xs (x4 + (6 : Int32)).toNatClampNeg), .ref ao]) rfl rfl hl.1 rfl (lv_room (Nat.le_of_ble_eq_true rfl)) dL_law_321 ⟨by show cells + 1 ≤ _; omega, by show slots + 6 ≤ _; omega⟩) (fun H1 h hk => gs_app h (gs_kept rfl (law_d1 hn) (gs_right hP) hk)) (fun H locs hP hS => ?_)
  refine lv_istore (lv' := [(5, .int (lwc [1, 2, 4] rv.1)), (0, .ref sb), (1, .ref (a 0)), (2, .ref (b 0)), (3, .ref ao), (4, .int x4)]) hx hb dL_law_324 hl (by decide) rfl (fun ls hl => ?_)
  refine lv_aload_n hx hb dL_law_326 rfl (lv_at hl 3 rfl) ?_
  refine lv_aload_n hx hb dL_law_327 rfl (lv_at hl 1 rfl) ?_
  refine lv_iload hx hb dL_law_328 (lv_at hl 5 rfl) ?_
  refine lv_iconst (v := (1 : Int32)) hx hb dL_law_330 (by decide) ?_
  refine lv_iadd hx hb dL_law_331 ?_
  refine va_sld hx hb hX hbl hbA hS (law_ix (k := 1) ex4 (by omega) hL31) dL_law_332 ?_
  refine lv_aload_n hx hb dL_law_333 rfl (lv_at hl 1 rfl) ?_
  refine lv_iload hx hb dL_law_334 (lv_at hl 5 rfl) ?_
  refine lv_iconst (v := (2 : Int32)) hx hb dL_law_336 (by decide) ?_
  refine lv_iadd hx hb dL_law_337 ?_
  refine va_sld hx hb hX hbl hbA hS (law_ix (k := 2) ex4 (by omega) hL31) dL_law_338 ?_
  refine lv_aload_n hx hb dL_law_339 rfl (lv_at hl 1 rfl) ?_
  refine lv_iload hx hb dL_law_340 (lv_at hl 5 rfl) ?_
  refine lv_iconst (v := (3 : Int32)) hx hb dL_law_342 (by decide) ?_
  refine lv_iadd hx hb dL_law_343 ?_
  refine va_sld hx hb hX hbl hbA hS (law_ix (k := 3) ex4 (by omega) hL31) dL_law_344 ?_
  refine lv_aload_n hx hb dL_law_345 rfl (lv_at hl 1 rfl) ?_
  refine lv_iload hx hb dL_law_346 (lv_at hl 5 rfl) ?_
  refine lv_iconst (v := (4 : Int32)) hx hb dL_law_348 (by decide) ?_
  refine lv_iadd hx hb dL_law_349 ?_
  refine va_sld hx hb hX hbl hbA hS (law_ix (k := 4) ex4 (by omega) hL31) dL_law_350 ?_
  refine lv_aload_n hx hb dL_law_351 rfl (lv_at hl 1 rfl) ?_
  refine lv_iload hx hb dL_law_352 (lv_at hl 5 rfl) ?_
  refine lv_iconst (v := (5 : Int32)) hx hb dL_law_354 (by decide) ?_
  refine lv_iadd hx hb dL_law_355 ?_
  refine va_sld hx hb hX hbl hbA hS (law_ix (k := 5) ex4 (by omega) hL31) dL_law_356 ?_
  refine lv_aload_n hx hb dL_law_357 rfl (lv_at hl 1 rfl) ?_
  refine lv_iload hx hb dL_law_358 (lv_at hl 5 rfl) ?_
  refine lv_bipush (v := (6 : Int32)) hx hb dL_law_360 (by decide) ?_
  refine lv_iadd hx hb dL_law_362 ?_
  refine va_sld hx hb hX hbl hbA hS (law_ix (k := 6) ex4 (by omega) hL31) dL_law_363 ?_
  refine gs_ki (w2 := lawW a b ao cA cL ((rv.2.2, (if rv.1 = 0 then vp_updL f 0 (Int32.toInt64 rv.2.1) else f)), rz.2)) hS law_le2 (va_runV (As := [.int (xs (x4 + (1 : Int32)).toNatClampNeg), .int (xs (x4 + (2 : Int32)).toNatClampNeg), .int (xs (x4 + (3 : Int32)).toNatClampNeg), .int (xs (x4 + (4 : Int32)).toNatClampNeg), .int (xs (x4 + (5 : Int32)).toNatClampNeg), .int (xs (x4 + (6 : Int32)).toNatClampNeg)]) (rest := []) ⟨hx, hb, hml, hown, hts⟩ (mX6_call (D := D) (a := b) (cA := cA) (u := w) h2) (cwV 6 hts glaw_95 rfl rfl rfl (by decide +kernel) ⟨Nat.le_of_ble_eq_true rfl, Nat.le_of_ble_eq_true rfl⟩) (gs_preV (q0 := 0) (ci := 5) gY_ok (hK.sub (tys' := [(cA, .int)]) [0] rfl) (law_n2 hn) trivial (gs_right hP) hS law_le2 [.int (xs (x4 + (1 : Int32)).toNatClampNeg), .int (xs (x4 + (2 : Int32)).toNatClampNeg), .int (xs (x4 + (3 : Int32)).toNatClampNeg), .int (xs (x4 + (4 : Int32)).toNatClampNeg), .int (xs (x4 + (5 : Int32)).toNatClampNeg), .int (xs (x4 + (6 : Int32)).toNatClampNeg)] rfl rfl) rfl rfl hl.1 rfl (lv_room (Nat.le_of_ble_eq_true rfl)) dL_law_364 ⟨by omega, by omega⟩) (fun H1 h hk => gs_app (gs_kept rfl (law_d2 hn) (gs_left hP) hk) h) (fun H locs hP hS => ?_)
  refine lv_istore (lv' := [(6, .int rz.1), (5, .int (lwc [1, 2, 4] rv.1)), (0, .ref sb), (1, .ref (a 0)), (2, .ref (b 0)), (3, .ref ao), (4, .int x4)]) hx hb dL_law_367 hl (by decide) rfl (fun ls hl => ?_)
  refine lv_goto (tgt := 921) hx hb dL_law_369 (by decide) ?_
  refine W.widen (k := cells + 1) (n := slots + 6) (by omega) (by omega) ?_
  exact kk rv.2.2 rz.2 (if rv.1 = 0 then vp_updL f 0 (Int32.toInt64 rv.2.1) else f) _ _ _ hR' hP hS (lv_sub hl [2, 3, 4, 5, 6] rfl)
