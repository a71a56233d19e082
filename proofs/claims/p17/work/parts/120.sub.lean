theorem gs_left {D : va_G} {cl : List vw_C} {w r : va_W} {H : Heap} (h : va_P D cl (w ++ r) H) : va_P D cl w H := fun k q hk => h k q (by rw [List.getElem?_append_left (List.getElem?_eq_some_iff.mp hk).1]; exact hk)
theorem gs_right {D : va_G} {cl : List vw_C} {w r : va_W} {H : Heap} (h : va_P D cl (w ++ r) H) : va_P D cl r H := fun k q hk => h (w.length + k) q (by rw [List.getElem?_append_right (Nat.le_add_right _ _), Nat.add_sub_cancel_left]; exact hk)
theorem gs_app {D : va_G} {cl : List vw_C} {w r : va_W} {H : Heap} (h1 : va_P D cl w H) (h2 : va_P D cl r H) : va_P D cl (w ++ r) H := fun k q hk => by
  rcases Nat.lt_or_ge k w.length with h | h
  · rw [List.getElem?_append_left h] at hk; exact h1 k q hk
  · rw [List.getElem?_append_right h] at hk; exact h2 _ q hk
theorem gs_kept {D : va_G} {cl : List vw_C} {r : va_W} {as ar : List Nat} {H H1 : Heap} (hr : r.map Prod.fst = ar) (hd : ∀ q ∈ ar, q ∉ as) (h : va_P D cl r H) (hk : ∀ q : Nat, q < H.size → ¬ rg as H.size q → H1[q]? = H[q]?) : va_P D cl r H1 :=
  h.kept (fun k q hq => hk q.1 (h k q hq).lt (fun z => z.elim (hd q.1 (by rw [← hr]; exact List.mem_map.mpr ⟨q, List.mem_of_getElem? hq, rfl⟩)) (fun z => absurd (h k q hq).lt (Nat.not_lt.mpr z))))
section GS
variable {σ τ : Type} {p : Program} {l : Launch} {e : Env} {R : Room} {s : State} {m : MethodId} {args : Array Value} {below : List Frame} {meth : Method} {c : Code} {H : Heap} {locs : List Loc} {cells slots mc ms : Nat} {Q : State → Prop}
variable {pc : Nat} {ls : Array Slot} {rest st0 : List Value} {a : Array Value}
variable {D : va_G} {cl : List vw_C} {tys tys2 : List (ClassId × FieldType)} {as ar as2 : List Nat} {X : (Nat → Prop) → State → Heap → Prop} {wd : σ → va_W} {u u' : σ} {r : va_W} {w1 w2 : va_W}
theorem gs_pre (hX : gw_ok X) (hK : va_K D cl tys s) (hn : as.Nodup) (hx : X (rg as2 s.heap.size) s s.heap) (hP : va_P D cl (wd u) H) (hS : va_S (rg as2 s.heap.size) s.heap H locs) (hle : ∀ q ∈ as, q ∈ as2) (U : State) (hU : U.heap = H) (hW : s.WarmedH U.vm) : gw_pre D cl tys as X wd H.size u U := by
  subst hU
  refine ⟨rfl, hP, va_K.moved hW.alike hK, hn, ?_⟩
  have h1 := hX.2.2.1 _ s s.heap U.heap hS.2.1 hx
  have h2 := hX.2.2.2 _ (rg as U.heap.size) s U.heap (fun q h => h.elim (fun z => Or.inl (hle q z)) (fun z => Or.inr (Nat.le_trans hS.1 z))) h1
  exact hX.2.1 _ s U _ hW h2
theorem gs_preS (hX : gw_ok X) (hK : va_K D cl tys s) (hn : as.Nodup) (hx : X (rg as2 s.heap.size) s s.heap) (hP : va_P D cl (wd u) H) (hS : va_S (rg as2 s.heap.size) s.heap H locs) (hle : ∀ q ∈ as, q ∈ as2) (As : List Value) : PreS s H (va_Pc As (gw_pre D cl tys as X wd H.size u)) As :=
  ⟨gw_blind hX, fun U hU hW => ⟨rfl, gs_pre hX hK hn hx hP hS hle U hU hW⟩⟩
theorem gs_preV (hX : gw_ok X) (hK : va_K D cl tys s) (hn : as.Nodup) (hx : X (rg as2 s.heap.size) s s.heap) (hP : va_P D cl (wd u) H) (hS : va_S (rg as2 s.heap.size) s.heap H locs) (hle : ∀ q ∈ as, q ∈ as2) {b q0 ci : Nat} {q : vw_C} {fs : List Value} (As : List Value) (hc : cl[ci]? = some q) (he : (wd u)[q0]? = some (b, .inr (ci, fs))) : PreV s H q.1 b (va_Pc (Value.ref b :: As) (gw_pre D cl tys as X wd H.size u)) As :=
  ⟨gw_blind hX, va_recv hK hP hc he, fun U hU hW => ⟨rfl, gs_pre hX hK hn hx hP hS hle U hU hW⟩⟩
theorem gs_ki {v : Int32} (hS : va_S (rg as2 s.heap.size) s.heap H locs) (hle : ∀ q ∈ as, q ∈ as2) (hr : va_Run p l e R s m args below meth c H locs cells slots mc ms (F0 m pc ls st0) rest (va_Qi (gw_Pi v u') (gw_W D cl wd) (rg as H.size) a) (rg as H.size))
    (hj : ∀ H1 : Heap, va_P D cl (wd u') H1 → (∀ q : Nat, q < H.size → ¬ rg as H.size q → H1[q]? = H[q]?) → va_P D cl w2 H1)
    (kk : ∀ (H : Heap) (locs : List Loc), va_P D cl w2 H → va_S (rg as2 s.heap.size) s.heap H locs → W p l e R s m args below meth c H locs (cells + mc) (slots + ms) Q (F0 m (pc + 3) ls (.int v :: rest))) : W p l e R s m args below meth c H locs cells slots Q (F0 m pc ls st0) := by
  have hin : ∀ q, rg as H.size q → rg as2 s.heap.size q := fun q h => h.elim (fun z => Or.inl (hle q z)) (fun z => Or.inr (Nat.le_trans hS.1 z))
  refine va_calli hr hS (fun q _ h => hin q h) hin (fun x w t H1 locs1 ht hvm hp hB hz hk hS => ?_)
  obtain ⟨rfl, rfl⟩ := hp
  exact kk H1 locs1 (hj H1 (by rw [← ht]; exact hB) hk) hS
theorem gs_kv (hS : va_S (rg as2 s.heap.size) s.heap H locs) (hle : ∀ q ∈ as, q ∈ as2) (hr : va_Run p l e R s m args below meth c H locs cells slots 0 0 (F0 m pc ls st0) rest (va_Qv (gw_Pv u') (gw_W D cl wd) (rg as H.size) a) (rg as H.size))
    (hj : ∀ H1 : Heap, va_P D cl (wd u') H1 → (∀ q : Nat, q < H.size → ¬ rg as H.size q → H1[q]? = H[q]?) → va_P D cl w2 H1)
    (kk : ∀ (H : Heap) (locs : List Loc), va_P D cl w2 H → va_S (rg as2 s.heap.size) s.heap H locs → W p l e R s m args below meth c H locs cells slots Q (F0 m (pc + 3) ls rest)) : W p l e R s m args below meth c H locs cells slots Q (F0 m pc ls st0) := by
  have hin : ∀ q, rg as H.size q → rg as2 s.heap.size q := fun q h => h.elim (fun z => Or.inl (hle q z)) (fun z => Or.inr (Nat.le_trans hS.1 z))
  refine va_callv hr hS (fun q _ h => hin q h) hin (fun w t H1 locs1 ht hvm hp hB hz hk hS => ?_)
  obtain rfl := hp
  exact kk H1 locs1 (hj H1 (by rw [← ht]; exact hB) hk) hS
theorem gs_xki {k : Nat} {v : Int32} (hS : va_S (rg as2 s.heap.size) s.heap H locs) (hle : ∀ q ∈ as, q ∈ as2) (hr : vx_Run p l e R s m args below meth c H locs cells slots mc ms (F0 m pc ls st0) rest (va_Qi (gx_Pi k v u') (gw_W D cl wd) (rg as H.size) a) (vx_X (gx_Px k u') (gx_W D cl wd k) (rg as H.size)) (rg as H.size))
    (hj : ∀ H1 : Heap, va_P D cl (wd u') H1 → (∀ q : Nat, q < H.size → ¬ rg as H.size q → H1[q]? = H[q]?) → va_P D cl w2 H1)
    (kx : ¬ k = 0 → ∀ (H : Heap) (locs : List Loc) (ce : Cell) (q : Addr), va_P D cl w2 H → va_S (rg as2 s.heap.size) s.heap H locs → gx_at s k ce q H → vx_W p l e R s m args below meth c H locs (cells + mc) (slots + ms) Q (F0 m pc ls rest) q)
    (kk : k = 0 → ∀ (H : Heap) (locs : List Loc), va_P D cl w2 H → va_S (rg as2 s.heap.size) s.heap H locs → W p l e R s m args below meth c H locs (cells + mc) (slots + ms) Q (F0 m (pc + 3) ls (.int v :: rest))) : W p l e R s m args below meth c H locs cells slots Q (F0 m pc ls st0) := by
  have hin : ∀ q, rg as H.size q → rg as2 s.heap.size q := fun q h => h.elim (fun z => Or.inl (hle q z)) (fun z => Or.inr (Nat.le_trans hS.1 z))
  refine vx_calli hr hS (fun q _ h => hin q h) hin (fun q _ h => hin q h) (fun E ce q9 w t H1 locs1 ht hvm hp hB hz hk hS h1 h2 h3 => ?_) (fun x w t H1 locs1 ht hvm hp hB hz hk hS => ?_)
  · obtain ⟨hk0, rfl⟩ := hp
    obtain ⟨rfl, hB⟩ := hB
    exact kx hk0 H1 locs1 ce q9 (hj H1 (by rw [← ht]; exact hB) hk) hS ⟨h1, h2, h3⟩
  · obtain ⟨hk0, rfl, rfl⟩ := hp
    exact kk hk0 H1 locs1 (hj H1 (by rw [← ht]; exact hB) hk) hS
theorem gs_xkv {k : Nat} (hS : va_S (rg as2 s.heap.size) s.heap H locs) (hle : ∀ q ∈ as, q ∈ as2) (hr : vx_Run p l e R s m args below meth c H locs cells slots mc ms (F0 m pc ls st0) rest (va_Qv (gx_Pv k u') (gw_W D cl wd) (rg as H.size) a) (vx_X (gx_Px k u') (gx_W D cl wd k) (rg as H.size)) (rg as H.size))
    (hj : ∀ H1 : Heap, va_P D cl (wd u') H1 → (∀ q : Nat, q < H.size → ¬ rg as H.size q → H1[q]? = H[q]?) → va_P D cl w2 H1)
    (kx : ¬ k = 0 → ∀ (H : Heap) (locs : List Loc) (ce : Cell) (q : Addr), va_P D cl w2 H → va_S (rg as2 s.heap.size) s.heap H locs → gx_at s k ce q H → vx_W p l e R s m args below meth c H locs (cells + mc) (slots + ms) Q (F0 m pc ls rest) q)
    (kk : k = 0 → ∀ (H : Heap) (locs : List Loc), va_P D cl w2 H → va_S (rg as2 s.heap.size) s.heap H locs → W p l e R s m args below meth c H locs (cells + mc) (slots + ms) Q (F0 m (pc + 3) ls rest)) : W p l e R s m args below meth c H locs cells slots Q (F0 m pc ls st0) := by
  have hin : ∀ q, rg as H.size q → rg as2 s.heap.size q := fun q h => h.elim (fun z => Or.inl (hle q z)) (fun z => Or.inr (Nat.le_trans hS.1 z))
  refine vx_callv hr hS (fun q _ h => hin q h) hin (fun q _ h => hin q h) (fun E ce q9 w t H1 locs1 ht hvm hp hB hz hk hS h1 h2 h3 => ?_) (fun w t H1 locs1 ht hvm hp hB hz hk hS => ?_)
  · obtain ⟨hk0, rfl⟩ := hp
    obtain ⟨rfl, hB⟩ := hB
    exact kx hk0 H1 locs1 ce q9 (hj H1 (by rw [← ht]; exact hB) hk) hS ⟨h1, h2, h3⟩
  · obtain ⟨hk0, rfl⟩ := hp
    exact kk hk0 H1 locs1 (hj H1 (by rw [← ht]; exact hB) hk) hS
end GS
def gl_M {σ : Type} (D : va_G) (cl : List vw_C) (tys : List (ClassId × FieldType)) (as : List Nat) (X : (Nat → Prop) → State → Heap → Prop) (wd : σ → va_W) (l : Launch) (y : MethodName) (ws : List Cond) (rm : Room) (mc ms sz : Nat) (u : σ) (As : List Value) (r : Int32) (u' : σ) : Prop :=
  Met l y ws rm (va_Pc As (gw_pre D cl tys as X wd sz u)) (va_Qi (gw_Pi r u') (gw_W D cl wd) (rg as sz)) mc ms (rg as sz)
def lwc (cs : List Nat) (k : Nat) : Int32 := if k = 0 then 0 else Int32.ofNat (cs.idxOf k + 1)
section GL
variable {σ : Type} {p : Program} {l : Launch} {e : Env} {R : Room} {s : State} {m : MethodId} {args : Array Value} {below : List Frame} {meth : Method} {c : Code} {H : Heap} {locs : List Loc} {cells slots mc ms : Nat} {Q : State → Prop}
variable {cc : ByteArray} {pc : Nat} {ls : Array Slot} {rest : List Value}
variable {D : va_G} {cl : List vw_C} {tys : List (ClassId × FieldType)} {as : List Nat} {X : (Nat → Prop) → State → Heap → Prop} {wd : σ → va_W} {u u' : σ}
theorem gl_reti {v r : Int32} {ty : FieldType} (hexec : p.tables.exec = Jvm.exec) (hb : c.code = cc) (hr : meth.sig.returnType = some ty) (hn : narrow ty (.int v) = .int v) (hlk : meth.locks = false) (hP : va_P D cl (wd u) H) (hS : va_S (rg as s.heap.size) s.heap H locs) (hv : v = r) (hu : u = u') (hc : cells ≤ mc) (hs : slots ≤ ms) (hdg : decode cc pc = .ok (.ireturn, 1)) :
    W p l e R s m args below meth c H locs cells slots (MQ below (va_Qi (gw_Pi r u') (gw_W D cl wd) (rg as s.heap.size)) args s mc ms (rg as s.heap.size)) (F0 m pc ls [.int v]) := by
  subst hv; subst hu
  refine W.widen hc hs ?_
  exact W.zret hexec hb hr hn (fun t ht _ => ⟨⟨v, u, rfl, ⟨rfl, rfl⟩, by show va_P D cl (wd u) t.heap; rw [ht]; exact hP⟩, hS.F ht⟩) hS.2.2 hdg hlk
theorem gl_last (hexec : p.tables.exec = Jvm.exec) (hb : c.code = cc) (hw : ∀ u, (wd u).map Prod.fst = as) (C : gw_C D cl tys as X s) (hP : va_P D cl (wd u) H) (hS : va_S (rg as s.heap.size) s.heap H locs) (q0 t0 : Nat) {b : Nat} {cA : ClassId} {n : Nat} {f : Nat → Int64} {i : Int32} {x : Int64} (ha : (wd u)[q0]? = some (b, .inl (cA, n, .inr (.inl f)))) (ht : tys[t0]? = some (cA, .long)) (hin : vp_in i n)
    (hset : (wd u).set q0 (b, .inl (cA, n, .inr (.inl (vp_updL f i.toNatClampNeg x)))) = wd u') (hdg : decode cc pc = .ok (.lastore, 1))
    (kk : ∀ (H : Heap) (locs : List Loc), va_P D cl (wd u') H → va_S (rg as s.heap.size) s.heap H locs → W p l e R s m args below meth c H locs cells slots Q (F0 m (pc + 1) ls rest)) : W p l e R s m args below meth c H locs cells slots Q (F0 m pc ls (.long x :: .int i :: .ref b :: rest)) :=
  va_last hexec hb C.1 hP (gw_D (hw u) C.2.1 _) hS q0 t0 ha ht hin hdg (fun H1 locs1 hP _ hS => kk H1 locs1 (by rw [← hset]; exact hP) hS)
end GL
theorem gl_Mof {σ : Type} {l : Launch} {y : MethodName} {ws ws' : List Cond} {rm : Room} {cc : ByteArray} {maxL : Nat} {ret : Option FieldType} {hh : List (Nat × Nat × Nat × Nat)} {D : va_G} {cl : List vw_C} {tys : List (ClassId × FieldType)} {as : List Nat} {X : (Nat → Prop) → State → Heap → Prop} {wd : σ → va_W} {u u' : σ} {sz mc ms : Nat} {As : List Value} {r : Int32} (hy : plainName y.cls = true) (hw : ws = Cond.codeWith y cc maxL ret hh :: ws')
    (body : ∀ (p : Program) (e : Env) (s : State) (m : MethodId) (below : List Frame) (meth : Method) (c : Code), gw_B p s m As.toArray meth c cc maxL ret y.cls ws' → c.exceptionTable.toList = tableOf hh → gw_C D cl tys as X s → va_P D cl (wd u) s.heap →
      W p l e rm s m As.toArray below meth c s.heap [] 0 0 (MQ below (va_Qi (gw_Pi r u') (gw_W D cl wd) (rg as s.heap.size)) As.toArray s mc ms (rg as s.heap.size)) (entryFrame m As.toArray maxL)) :
    gl_M D cl tys as X wd l y ws rm mc ms sz u As r u' := by
  refine va_MetW (cc := cc) (maxL := maxL) (ret := ret) (hh := hh) hy hw ?_
  intro p e s m args below meth c s₁ B hml hv
  obtain ⟨rfl, rfl, hP, C⟩ := hv
  have hts := atoms_spec (ws := ws) B.pre
  exact body p e s m below meth c ⟨B.exec, B.bytes, hml, findClass_of_methodNamed B.named, fun w h => hts w (by rw [hw]; exact List.mem_cons_of_mem _ h), B.returns, B.notSynchronized⟩ (vx_table (x := y) B (hts _ (by rw [hw]; exact List.mem_cons_self))) C hP
