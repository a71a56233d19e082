abbrev g_S : Type := (Nat → Int32) × (Nat → Nat → Int32)
def g_sI (u : g_S) (k : Nat) (v : Int32) : g_S := (upd u.1 k v, u.2)
def g_sA (u : g_S) (k : Nat) (i v : Int32) : g_S := (u.1, va_up u.2 k (upd (u.2 k) i.toNatClampNeg v))
def gl {α β : Type} (x : α) (k : α → Option β) : Option β := k x
def ck {β : Type} (i : Int32) (n : Nat) (x : Option β) : Option β := if i < 0 ∨ n ≤ i.toNatClampNeg then none else x
theorem gl_e {α β : Type} {x : α} {k : α → Option β} {r : β} (h : gl x k = some r) : ∃ y, y = x ∧ k y = some r := ⟨x, rfl, h⟩
theorem ck_e {β : Type} {i : Int32} {n : Nat} {x : Option β} {r : β} (h : ck i n x = some r) : vp_in i n ∧ x = some r := by
  unfold ck at h
  by_cases q : i < 0 ∨ n ≤ i.toNatClampNeg
  · rw [if_pos q] at h; cases h
  · rw [if_neg q] at h; exact ⟨q, h⟩
theorem ck_in {β : Type} {i : Int32} {n : Nat} {x : Option β} (h : vp_in i n) : ck i n x = x := by
  unfold ck; rw [if_neg h]
theorem bi_e {α β : Type} {o : Option α} {k : α → Option β} {r : β} (h : o.bind k = some r) : ∃ v, o = some v ∧ k v = some r := by
  cases o with
  | none => cases h
  | some v => exact ⟨v, rfl, h⟩
theorem if_t {β : Type} {c : Prop} [Decidable c] {a b : Option β} {r : β} (hc : c) (h : (if c then a else b) = some r) : a = some r := by rwa [if_pos hc] at h
theorem if_f {β : Type} {c : Prop} [Decidable c] {a b : Option β} {r : β} (hc : ¬ c) (h : (if c then a else b) = some r) : b = some r := by rwa [if_neg hc] at h
theorem if_z {β : Type} {c : Prop} [Decidable c] {a : Option β} {r : β} (h : (if c then none else a) = some r) : ¬ c ∧ a = some r := by
  by_cases q : c
  · rw [if_pos q] at h; cases h
  · rw [if_neg q] at h; exact ⟨q, h⟩
theorem if_s {β : Type} {c : Prop} [Decidable c] {a : Option β} {r : β} (h : (if c then a else none) = some r) : c ∧ a = some r := by
  by_cases q : c
  · rw [if_pos q] at h; exact ⟨q, h⟩
  · rw [if_neg q] at h; cases h
theorem if_nn {β : Type} {c : Prop} [Decidable c] {a b : Option β} {r : β} (hc : c) (h : (if ¬ c then a else b) = some r) : b = some r := by rwa [if_neg (fun q => q hc)] at h
theorem nar_z {v : Int32} (h : v = 0 ∨ v = 1) : narrow .boolean (.int v) = .int v := by rcases h with rfl | rfl <;> rfl
def gT : List Cond := lw_tbl.filter goodWord
theorem gT_of {w : Cond} (h : w ∈ lw_tbl) (hg : goodWord w = true) : w ∈ gT := List.mem_filter.mpr ⟨h, hg⟩
theorem gT_g {w : Cond} (h : w ∈ gT) : w ∈ gT ∧ ((w.onTables && w.keeps) = true ∨ ∃ ty, w = .arrayClass ty) := ⟨h, good_of_word (List.mem_filter.mp h).2⟩
theorem gT_c {c w : Cond} (h : c ∈ gT) (hw : w ∈ c :: gT) : w ∈ gT := (List.mem_cons.mp hw).elim (fun e => e ▸ h) id
theorem gT_good {c : Cond} (h : c ∈ gT) : GoodIn gT (c :: gT) := fun _ hw => gT_g (gT_c h hw)
theorem gT_V {own C : String} {idx : Nat} {y : MethodName} {c : Cond} (h1 : Cond.methodLink own idx y ∈ gT) (h2 : Cond.instanceMethod y ∈ gT) (h3 : Cond.selects C y y ∈ gT) (h4 : Cond.initialized C ∈ gT) (h5 : c ∈ gT) : GoodIn gT (wsV own idx C y (c :: gT)) := fun w hw => by
  refine gT_g ?_
  unfold wsV at hw
  rcases List.mem_append.mp hw with q | q
  · simp only [List.mem_cons, List.not_mem_nil, or_false] at q
    rcases q with rfl | rfl | rfl | rfl
    · exact h1
    · exact h2
    · exact h3
    · exact h4
  · exact gT_c h5 q
theorem gT_S {own : String} {idx : Nat} {y : MethodName} {c : Cond} (h1 : Cond.methodLink own idx y ∈ gT) (h2 : Cond.static y ∈ gT) (h3 : Cond.initialized own ∈ gT) (h5 : c ∈ gT) : GoodIn gT (wsS own idx y (c :: gT)) := fun w hw => by
  refine gT_g ?_
  unfold wsS at hw
  rcases List.mem_append.mp hw with q | q
  · simp only [List.mem_cons, List.not_mem_nil, or_false] at q
    rcases q with rfl | rfl | rfl
    · exact h1
    · exact h2
    · exact h3
  · exact gT_c h5 q
def rg (as : List Nat) (sz : Nat) : Nat → Prop := fun q => q ∈ as ∨ sz ≤ q
theorem rg_mono {as : List Nat} {a b q : Nat} (h : a ≤ b) (hq : rg as b q) : rg as a q := hq.elim Or.inl (fun x => Or.inr (Nat.le_trans h x))
theorem gw_D {ws : va_W} {as : List Nat} (h : ws.map Prod.fst = as) (hn : as.Nodup) (sz : Nat) : va_D (rg as sz) ws := by
  subst h
  refine ⟨fun i j x y hi hj hxy => ?_, fun k q hk => Or.inl (List.mem_map.mpr ⟨q, List.mem_of_getElem? hk, rfl⟩)⟩
  have h1 : (ws.map Prod.fst)[i]? = some x.1 := by rw [List.getElem?_map, hi]; rfl
  have h2 : (ws.map Prod.fst)[j]? = some x.1 := by rw [List.getElem?_map, hj, hxy]; rfl
  have hil : i < (ws.map Prod.fst).length := (List.getElem?_eq_some_iff.mp h1).1
  exact (List.getElem?_inj hil hn).mp (h1.trans h2.symm)
def gw_ok (X : (Nat → Prop) → State → Heap → Prop) : Prop :=
  (∀ (A : Nat → Prop) (U V : State) (H : Heap), V.vm = U.vm → X A U H → X A V H) ∧
  (∀ (A : Nat → Prop) (s U : State) (H : Heap), s.WarmedH U.vm → X A s H → X A U H) ∧
  (∀ (A : Nat → Prop) (U : State) (H H1 : Heap), (∀ a : Nat, a < H.size → ¬ A a → H1[a]? = H[a]?) → X A U H → X A U H1) ∧
  (∀ (A B : Nat → Prop) (U : State) (H : Heap), (∀ q, B q → A q) → X A U H → X B U H)
def gw_C (D : va_G) (cl : List vw_C) (tys : List (ClassId × FieldType)) (as : List Nat) (X : (Nat → Prop) → State → Heap → Prop) (s : State) : Prop :=
  va_K D cl tys s ∧ as.Nodup ∧ X (rg as s.heap.size) s s.heap
def gw_V {σ : Type} (D : va_G) (cl : List vw_C) (as : List Nat) (wd : σ → va_W) (s : State) (u : σ) (H : Heap) (locs : List Loc) : Prop :=
  va_P D cl (wd u) H ∧ va_S (rg as s.heap.size) s.heap H locs
def gw_pre {σ : Type} (D : va_G) (cl : List vw_C) (tys : List (ClassId × FieldType)) (as : List Nat) (X : (Nat → Prop) → State → Heap → Prop) (wd : σ → va_W) (sz : Nat) (u : σ) (U : State) : Prop :=
  U.heap.size = sz ∧ va_P D cl (wd u) U.heap ∧ gw_C D cl tys as X U
theorem gw_blind {σ : Type} {D : va_G} {cl : List vw_C} {tys : List (ClassId × FieldType)} {as : List Nat} {X : (Nat → Prop) → State → Heap → Prop} {wd : σ → va_W} {sz : Nat} {u : σ} {av : List Value} (hX : gw_ok X) : FrameBlind (va_Pc av (gw_pre D cl tys as X wd sz u)) := by
  intro a U g mk h
  obtain ⟨h0, h1, h2, h3, h4, h5⟩ := h
  exact ⟨h0, h1, h2, va_K.moved (u := U) (U := U.calling g mk a) (Vm.Alike.refl U.vm) h3, h4, hX.1 _ U (U.calling g mk a) _ rfl h5⟩
theorem gw_pass {σ : Type} {D : va_G} {cl : List vw_C} {tys : List (ClassId × FieldType)} {as : List Nat} {X : (Nat → Prop) → State → Heap → Prop} {wd : σ → va_W} {s : State} {u : σ} {H : Heap} {locs : List Loc} (hX : gw_ok X) (C : gw_C D cl tys as X s) (V : gw_V D cl as wd s u H locs)
    (U : State) (hU : U.heap = H) (hW : s.WarmedH U.vm) : gw_pre D cl tys as X wd H.size u U := by
  obtain ⟨hK, hn, hx⟩ := C
  subst hU
  refine ⟨rfl, V.1, va_K.moved hW.alike hK, hn, ?_⟩
  have h1 := hX.2.2.1 _ s s.heap U.heap V.2.2.1 hx
  have h2 := hX.2.2.2 _ (rg as U.heap.size) s U.heap (fun q h => rg_mono V.2.1 h) h1
  exact hX.2.1 _ s U _ hW h2
theorem gw_preS {σ : Type} {D : va_G} {cl : List vw_C} {tys : List (ClassId × FieldType)} {as : List Nat} {X : (Nat → Prop) → State → Heap → Prop} {wd : σ → va_W} {s : State} {u : σ} {H : Heap} {locs : List Loc} (hX : gw_ok X) (C : gw_C D cl tys as X s) (V : gw_V D cl as wd s u H locs) (As : List Value) :
    PreS s H (va_Pc As (gw_pre D cl tys as X wd H.size u)) As := ⟨gw_blind hX, fun U hU hW => ⟨rfl, gw_pass hX C V U hU hW⟩⟩
theorem gw_preV {σ : Type} {D : va_G} {cl : List vw_C} {tys : List (ClassId × FieldType)} {as : List Nat} {X : (Nat → Prop) → State → Heap → Prop} {wd : σ → va_W} {s : State} {u : σ} {H : Heap} {locs : List Loc} (hX : gw_ok X) (C : gw_C D cl tys as X s) (V : gw_V D cl as wd s u H locs) {b q0 ci : Nat} {q : vw_C} {fs : List Value} (As : List Value)
    (hc : cl[ci]? = some q) (he : (wd u)[q0]? = some (b, .inr (ci, fs))) : PreV s H q.1 b (va_Pc (Value.ref b :: As) (gw_pre D cl tys as X wd H.size u)) As :=
  ⟨gw_blind hX, va_recv C.1 V.1 hc he, fun U hU hW => ⟨rfl, gw_pass hX C V U hU hW⟩⟩
def exN (k : Nat) : String := match k with
  | 1 => "java/lang/IllegalArgumentException"
  | 2 => "java/lang/IndexOutOfBoundsException"
  | 3 => "java/lang/IllegalStateException"
  | 4 => "java/lang/UnsupportedOperationException"
  | _ => "java/lang/ArithmeticException"
section GWM
variable {σ : Type} (D : va_G) (cl : List vw_C) (tys : List (ClassId × FieldType)) (as : List Nat) (X : (Nat → Prop) → State → Heap → Prop) (wd : σ → va_W)
def gw_Pi (r : Int32) (u' : σ) : Int32 → σ → Prop := fun x w => x = r ∧ w = u'
def gw_Pl (r : Int64) (u' : σ) : Int64 → σ → Prop := fun x w => x = r ∧ w = u'
def gw_Pv (u' : σ) : σ → Prop := fun w => w = u'
def gw_W (w : σ) (t : State) : Prop := va_P D cl (wd w) t.heap
def gw_Mi (l : Launch) (y : MethodName) (ws : List Cond) (rm : Room) (sz : Nat) (u : σ) (As : List Value) (r : Int32) (u' : σ) : Prop :=
  Met l y ws rm (va_Pc As (gw_pre D cl tys as X wd sz u)) (va_Qi (gw_Pi r u') (gw_W D cl wd) (rg as sz)) 0 0 (rg as sz)
def gw_Ml (l : Launch) (y : MethodName) (ws : List Cond) (rm : Room) (sz : Nat) (u : σ) (As : List Value) (r : Int64) (u' : σ) : Prop :=
  Met l y ws rm (va_Pc As (gw_pre D cl tys as X wd sz u)) (va_Ql (gw_Pl r u') (gw_W D cl wd) (rg as sz)) 0 0 (rg as sz)
def gw_Mv (l : Launch) (y : MethodName) (ws : List Cond) (rm : Room) (sz : Nat) (u : σ) (As : List Value) (u' : σ) : Prop :=
  Met l y ws rm (va_Pc As (gw_pre D cl tys as X wd sz u)) (va_Qv (gw_Pv u') (gw_W D cl wd) (rg as sz)) 0 0 (rg as sz)
end GWM
abbrev gw_Ei {σ : Type} (D : va_G) (cl : List vw_C) (as : List Nat) (wd : σ → va_W) (below : List Frame) (args : Array Value) (s : State) (r : Int32) (u' : σ) : State → Prop := MQ below (va_Qi (gw_Pi r u') (gw_W D cl wd) (rg as s.heap.size)) args s 0 0 (rg as s.heap.size)
abbrev gw_El {σ : Type} (D : va_G) (cl : List vw_C) (as : List Nat) (wd : σ → va_W) (below : List Frame) (args : Array Value) (s : State) (r : Int64) (u' : σ) : State → Prop := MQ below (va_Ql (gw_Pl r u') (gw_W D cl wd) (rg as s.heap.size)) args s 0 0 (rg as s.heap.size)
abbrev gw_Ev {σ : Type} (D : va_G) (cl : List vw_C) (as : List Nat) (wd : σ → va_W) (below : List Frame) (args : Array Value) (s : State) (u' : σ) : State → Prop := MQ below (va_Qv (gw_Pv u') (gw_W D cl wd) (rg as s.heap.size)) args s 0 0 (rg as s.heap.size)
section GWR
variable {σ : Type} {p : Program} {l : Launch} {e : Env} {R : Room} {s : State} {m : MethodId} {args : Array Value} {below : List Frame} {meth : Method} {c : Code} {H : Heap} {locs : List Loc} {cells slots : Nat} {Q : State → Prop}
variable {cc : ByteArray} {pc : Nat} {ls : Array Slot} {rest st0 : List Value} {a : Array Value}
variable {D : va_G} {cl : List vw_C} {tys : List (ClassId × FieldType)} {as : List Nat} {X : (Nat → Prop) → State → Heap → Prop} {wd : σ → va_W} {u u' : σ}
theorem gw_nmi {x v : Int32} (h : v = x) (k : W p l e R s m args below meth c H locs cells slots Q (F0 m pc ls (.int v :: rest))) : W p l e R s m args below meth c H locs cells slots Q (F0 m pc ls (.int x :: rest)) := h ▸ k
theorem gw_nml {x v : Int64} (h : v = x) (k : W p l e R s m args below meth c H locs cells slots Q (F0 m pc ls (.long v :: rest))) : W p l e R s m args below meth c H locs cells slots Q (F0 m pc ls (.long x :: rest)) := h ▸ k
theorem gw_iast (hexec : p.tables.exec = Jvm.exec) (hb : c.code = cc) (hw : ∀ u, (wd u).map Prod.fst = as) (C : gw_C D cl tys as X s) (V : gw_V D cl as wd s u H locs) (q0 t0 : Nat) {b : Nat} {cA : ClassId} {n : Nat} {f : Nat → Int32} {i x : Int32} (ha : (wd u)[q0]? = some (b, .inl (cA, n, .inl f))) (ht : tys[t0]? = some (cA, .int)) (hin : vp_in i n)
    (hset : (wd u).set q0 (b, .inl (cA, n, .inl (upd f i.toNatClampNeg x))) = wd u') (hdg : decode cc pc = .ok (.iastore, 1))
    (kk : ∀ (H : Heap) (locs : List Loc), gw_V D cl as wd s u' H locs → W p l e R s m args below meth c H locs cells slots Q (F0 m (pc + 1) ls rest)) : W p l e R s m args below meth c H locs cells slots Q (F0 m pc ls (.int x :: .int i :: .ref b :: rest)) :=
  va_iast hexec hb C.1 V.1 (gw_D (hw u) C.2.1 _) V.2 q0 t0 ha ht hin hdg (fun H1 locs1 hP _ hS => kk H1 locs1 ⟨by rw [← hset]; exact hP, hS⟩)
theorem gw_put (hexec : p.tables.exec = Jvm.exec) (hb : c.code = cc) {own ref C : String} {T : u_T} {N ci index : Nat} {Ts : List Cond} (hts : ∀ w ∈ Ts, w.before args s = true) (hin : ∀ w ∈ u_ws C T N, w ∈ Ts) (ty0 : Nat → FieldType) (hty : ∀ k, k < N → parseFieldDescriptor (T k).2.2.1 = some (ty0 k)) (hnm : ∀ a, a < N → ∀ b, b < N → a ≠ b → (T a).2.1 ≠ (T b).2.1) (hown : s.vm.findClass own = some m.cls)
    (hw : ∀ u, (wd u).map Prod.fst = as) (C0 : gw_C D cl tys as X s) (V : gw_V D cl as wd s u H locs) (q0 : Nat) {b : Nat} {fs : List Value} (he : (wd u)[q0]? = some (b, .inr (ci, fs))) (hc : cl[ci]? = some (C, T, N)) (k : Nat) (hk : k < N) (hlink : (Cond.fieldLink own index ref (T k).2.1 (T k).2.2.1).before args s = true)
    (hsame : ∀ x, s.fieldFound? (T k).1 (T k).2.1 (T k).2.2.1 = some x → s.fieldFound? ref (T k).2.1 (T k).2.2.1 = some x) (hfin : (T k).2.2.2 = false) {v : Int32} (hd : parseFieldDescriptor (T k).2.2.1 = some .int) (hl : k < fs.length)
    (hset : (wd u).set q0 (b, .inr (ci, fs.set k (.int v))) = wd u') (hdg : decode cc pc = .ok (.putfield index, 3))
    (kk : ∀ (H : Heap) (locs : List Loc), gw_V D cl as wd s u' H locs → W p l e R s m args below meth c H locs cells slots Q (F0 m (pc + 3) ls rest)) : W p l e R s m args below meth c H locs cells slots Q (F0 m pc ls (.int v :: .ref b :: rest)) :=
  va_put hexec hb hts hin ty0 hty hnm hown C0.1 V.1 (gw_D (hw u) C0.2.1 _) V.2 q0 he hc k hk hlink hsame hfin hd rfl rfl hl hdg (fun H1 locs1 hP _ hS => kk H1 locs1 ⟨by rw [← hset]; exact hP, hS⟩)
theorem gw_ki {r : Int32} (V : gw_V D cl as wd s u H locs) (hr : va_Run p l e R s m args below meth c H locs cells slots 0 0 (F0 m pc ls st0) rest (va_Qi (gw_Pi r u') (gw_W D cl wd) (rg as H.size) a) (rg as H.size))
    (kk : ∀ (H : Heap) (locs : List Loc), gw_V D cl as wd s u' H locs → W p l e R s m args below meth c H locs cells slots Q (F0 m (pc + 3) ls (.int r :: rest))) : W p l e R s m args below meth c H locs cells slots Q (F0 m pc ls st0) := by
  refine va_calli hr V.2 (fun q _ h => rg_mono V.2.1 h) (fun q h => rg_mono V.2.1 h) (fun x w t H1 locs1 ht hvm hp hB hz hk hS => ?_)
  obtain ⟨rfl, rfl⟩ := hp
  exact kk H1 locs1 ⟨by rw [← ht]; exact hB, hS⟩
theorem gw_kl {r : Int64} (V : gw_V D cl as wd s u H locs) (hr : va_Run p l e R s m args below meth c H locs cells slots 0 0 (F0 m pc ls st0) rest (va_Ql (gw_Pl r u') (gw_W D cl wd) (rg as H.size) a) (rg as H.size))
    (kk : ∀ (H : Heap) (locs : List Loc), gw_V D cl as wd s u' H locs → W p l e R s m args below meth c H locs cells slots Q (F0 m (pc + 3) ls (.long r :: rest))) : W p l e R s m args below meth c H locs cells slots Q (F0 m pc ls st0) := by
  refine va_calll hr V.2 (fun q _ h => rg_mono V.2.1 h) (fun q h => rg_mono V.2.1 h) (fun x w t H1 locs1 ht hvm hp hB hz hk hS => ?_)
  obtain ⟨rfl, rfl⟩ := hp
  exact kk H1 locs1 ⟨by rw [← ht]; exact hB, hS⟩
theorem gw_kv (V : gw_V D cl as wd s u H locs) (hr : va_Run p l e R s m args below meth c H locs cells slots 0 0 (F0 m pc ls st0) rest (va_Qv (gw_Pv u') (gw_W D cl wd) (rg as H.size) a) (rg as H.size))
    (kk : ∀ (H : Heap) (locs : List Loc), gw_V D cl as wd s u' H locs → W p l e R s m args below meth c H locs cells slots Q (F0 m (pc + 3) ls rest)) : W p l e R s m args below meth c H locs cells slots Q (F0 m pc ls st0) := by
  refine va_callv hr V.2 (fun q _ h => rg_mono V.2.1 h) (fun q h => rg_mono V.2.1 h) (fun w t H1 locs1 ht hvm hp hB hz hk hS => ?_)
  obtain rfl := hp
  exact kk H1 locs1 ⟨by rw [← ht]; exact hB, hS⟩
theorem gw_reti {v r : Int32} {ty : FieldType} (hexec : p.tables.exec = Jvm.exec) (hb : c.code = cc) (hr : meth.sig.returnType = some ty) (hn : narrow ty (.int v) = .int v) (hlk : meth.locks = false) (V : gw_V D cl as wd s u H locs) (hv : v = r) (hu : u = u') (hdg : decode cc pc = .ok (.ireturn, 1)) :
    W p l e R s m args below meth c H locs cells slots (MQ below (va_Qi (gw_Pi r u') (gw_W D cl wd) (rg as s.heap.size)) args s cells slots (rg as s.heap.size)) (F0 m pc ls [.int v]) := by
  subst hv; subst hu
  exact W.zret hexec hb hr hn (fun t ht _ => ⟨⟨v, u, rfl, ⟨rfl, rfl⟩, by show va_P D cl (wd u) t.heap; rw [ht]; exact V.1⟩, V.2.F ht⟩) V.2.2.2 hdg hlk
theorem gw_retl {v r : Int64} (hexec : p.tables.exec = Jvm.exec) (hb : c.code = cc) (hr : meth.sig.returnType = some .long) (hlk : meth.locks = false) (V : gw_V D cl as wd s u H locs) (hv : v = r) (hu : u = u') (hdg : decode cc pc = .ok (.lreturn, 1)) :
    W p l e R s m args below meth c H locs cells slots (MQ below (va_Ql (gw_Pl r u') (gw_W D cl wd) (rg as s.heap.size)) args s cells slots (rg as s.heap.size)) (F0 m pc ls [.long v]) := by
  subst hv; subst hu
  exact W.lret hexec hb hr (fun t ht _ => ⟨⟨v, u, rfl, ⟨rfl, rfl⟩, by show va_P D cl (wd u) t.heap; rw [ht]; exact V.1⟩, V.2.F ht⟩) V.2.2.2 hdg hlk
theorem gw_retv (hexec : p.tables.exec = Jvm.exec) (hb : c.code = cc) (hr : meth.sig.returnType = none) (hlk : meth.locks = false) (V : gw_V D cl as wd s u H locs) (hu : u = u') (hdg : decode cc pc = .ok (.return_, 1)) :
    W p l e R s m args below meth c H locs cells slots (MQ below (va_Qv (gw_Pv u') (gw_W D cl wd) (rg as s.heap.size)) args s cells slots (rg as s.heap.size)) (F0 m pc ls []) := by
  subst hu
  exact W.vret hexec hb hr (fun t ht _ => ⟨⟨u, rfl, rfl, by show va_P D cl (wd u) t.heap; rw [ht]; exact V.1⟩, V.2.F ht⟩) V.2.2.2 hdg hlk
end GWR
def gw_B (p : Program) (s : State) (m : MethodId) (args : Array Value) (meth : Method) (c : Code) (cc : ByteArray) (nL : Nat) (ret : Option FieldType) (own : String) (Ts : List Cond) : Prop :=
  p.tables.exec = Jvm.exec ∧ c.code = cc ∧ c.maxLocals = nL ∧ s.vm.findClass own = some m.cls ∧ (∀ w ∈ Ts, w.before args s = true) ∧ meth.sig.returnType = ret ∧ meth.locks = false
section GWE
variable {σ : Type} {l : Launch} {y : MethodName} {ws ws' : List Cond} {rm : Room} {cc : ByteArray} {maxL : Nat} {ret : Option FieldType} {D : va_G} {cl : List vw_C} {tys : List (ClassId × FieldType)} {as : List Nat} {X : (Nat → Prop) → State → Heap → Prop} {wd : σ → va_W} {u u' : σ} {sz : Nat} {As : List Value}
theorem gw_Mof {Qc : Nat → Array Value → State → Outcome → State → Prop} {mc ms : Nat} (hy : plainName y.cls = true) (hw : ws = Cond.code y cc maxL ret :: ws')
    (body : ∀ (p : Program) (e : Env) (s : State) (m : MethodId) (below : List Frame) (meth : Method) (c : Code), gw_B p s m As.toArray meth c cc maxL ret y.cls ws' → gw_C D cl tys as X s → gw_V D cl as wd s u s.heap [] →
      W p l e rm s m As.toArray below meth c s.heap [] 0 0 (MQ below (Qc s.heap.size) As.toArray s mc ms (rg as s.heap.size)) (entryFrame m As.toArray maxL)) :
    Met l y ws rm (va_Pc As (gw_pre D cl tys as X wd sz u)) (Qc sz) mc ms (rg as sz) := by
  refine Met.ofW (cc := cc) (maxL := maxL) (ret := ret) hy hw ?_
  intro p e s m args below meth c s₁ B hml hv
  obtain ⟨rfl, rfl, hP, C⟩ := hv
  exact body p e s m below meth c ⟨B.exec, B.bytes, hml, findClass_of_methodNamed B.named, fun w h => atoms_spec (ws := ws) B.pre w (by rw [hw]; exact List.mem_cons_of_mem _ h), B.returns, B.notSynchronized⟩ C ⟨hP, va_S.rf⟩
end GWE
