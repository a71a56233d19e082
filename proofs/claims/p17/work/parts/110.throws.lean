section GXM
variable {σ : Type} (D : va_G) (cl : List vw_C) (tys : List (ClassId × FieldType)) (as : List Nat) (X : (Nat → Prop) → State → Heap → Prop) (wd : σ → va_W)
def gx_Pi (k : Nat) (r : Int32) (u' : σ) : Int32 → σ → Prop := fun x w => k = 0 ∧ x = r ∧ w = u'
def gx_Pv (k : Nat) (u' : σ) : σ → Prop := fun w => k = 0 ∧ w = u'
def gx_Px (k : Nat) (u' : σ) : σ → Prop := fun w => ¬ k = 0 ∧ w = u'
def gx_W (k : Nat) (E : String) (w : σ) (t : State) : Prop := E = exN k ∧ va_P D cl (wd w) t.heap
def gx_Mi (l : Launch) (y : MethodName) (ws : List Cond) (rm : Room) (mc ms sz : Nat) (u : σ) (As : List Value) (k : Nat) (r : Int32) (u' : σ) : Prop :=
  vx_Met l y ws rm (va_Pc As (gw_pre D cl tys as X wd sz u)) (va_Qi (gx_Pi k r u') (gw_W D cl wd) (rg as sz)) (vx_X (gx_Px k u') (gx_W D cl wd k) (rg as sz)) mc ms (rg as sz)
def gx_Mv (l : Launch) (y : MethodName) (ws : List Cond) (rm : Room) (mc ms sz : Nat) (u : σ) (As : List Value) (k : Nat) (u' : σ) : Prop :=
  vx_Met l y ws rm (va_Pc As (gw_pre D cl tys as X wd sz u)) (va_Qv (gx_Pv k u') (gw_W D cl wd) (rg as sz)) (vx_X (gx_Px k u') (gx_W D cl wd k) (rg as sz)) mc ms (rg as sz)
end GXM
abbrev gx_Ei {σ : Type} (D : va_G) (cl : List vw_C) (as : List Nat) (wd : σ → va_W) (below : List Frame) (args : Array Value) (s : State) (mc ms k : Nat) (r : Int32) (u' : σ) : State → Prop := vx_MQ below (va_Qi (gx_Pi k r u') (gw_W D cl wd) (rg as s.heap.size)) (vx_X (gx_Px k u') (gx_W D cl wd k) (rg as s.heap.size)) args s mc ms (rg as s.heap.size)
abbrev gx_Ev {σ : Type} (D : va_G) (cl : List vw_C) (as : List Nat) (wd : σ → va_W) (below : List Frame) (args : Array Value) (s : State) (mc ms k : Nat) (u' : σ) : State → Prop := vx_MQ below (va_Qv (gx_Pv k u') (gw_W D cl wd) (rg as s.heap.size)) (vx_X (gx_Px k u') (gx_W D cl wd k) (rg as s.heap.size)) args s mc ms (rg as s.heap.size)
section GXR
variable {σ : Type} {p : Program} {l : Launch} {e : Env} {R : Room} {s : State} {m : MethodId} {args : Array Value} {below : List Frame} {meth : Method} {c : Code} {H : Heap} {locs : List Loc} {cells slots mc ms : Nat} {Q : State → Prop}
variable {cc : ByteArray} {pc : Nat} {ls : Array Slot} {rest st0 : List Value} {a : Array Value}
variable {D : va_G} {cl : List vw_C} {tys : List (ClassId × FieldType)} {as : List Nat} {X : (Nat → Prop) → State → Heap → Prop} {wd : σ → va_W} {u u' : σ} {k : Nat}
def gx_at (s : State) (k : Nat) (ce : Cell) (q : Addr) (H : Heap) : Prop := H[q]? = some ce ∧ ce.vm = .none ∧ s.vm.findClass (exN k) = some ce.cls
theorem gx_ki {r : Int32} (V : gw_V D cl as wd s u H locs) (hr : vx_Run p l e R s m args below meth c H locs cells slots mc ms (F0 m pc ls st0) rest (va_Qi (gx_Pi k r u') (gw_W D cl wd) (rg as H.size) a) (vx_X (gx_Px k u') (gx_W D cl wd k) (rg as H.size)) (rg as H.size))
    (kx : ¬ k = 0 → ∀ (H : Heap) (locs : List Loc) (ce : Cell) (q : Addr), gw_V D cl as wd s u' H locs → gx_at s k ce q H → vx_W p l e R s m args below meth c H locs (cells + mc) (slots + ms) Q (F0 m pc ls rest) q)
    (kk : k = 0 → ∀ (H : Heap) (locs : List Loc), gw_V D cl as wd s u' H locs → W p l e R s m args below meth c H locs (cells + mc) (slots + ms) Q (F0 m (pc + 3) ls (.int r :: rest))) : W p l e R s m args below meth c H locs cells slots Q (F0 m pc ls st0) := by
  refine vx_calli hr V.2 (fun q _ h => rg_mono V.2.1 h) (fun q h => rg_mono V.2.1 h) (fun q _ h => rg_mono V.2.1 h) (fun E ce q9 w t H1 locs1 ht hvm hp hB hz hk hS h1 h2 h3 => ?_) (fun x w t H1 locs1 ht hvm hp hB hz hk hS => ?_)
  · obtain ⟨hk0, rfl⟩ := hp
    obtain ⟨rfl, hB⟩ := hB
    exact kx hk0 H1 locs1 ce q9 ⟨by rw [← ht]; exact hB, hS⟩ ⟨h1, h2, h3⟩
  · obtain ⟨hk0, rfl, rfl⟩ := hp
    exact kk hk0 H1 locs1 ⟨by rw [← ht]; exact hB, hS⟩
theorem gx_kv (V : gw_V D cl as wd s u H locs) (hr : vx_Run p l e R s m args below meth c H locs cells slots mc ms (F0 m pc ls st0) rest (va_Qv (gx_Pv k u') (gw_W D cl wd) (rg as H.size) a) (vx_X (gx_Px k u') (gx_W D cl wd k) (rg as H.size)) (rg as H.size))
    (kx : ¬ k = 0 → ∀ (H : Heap) (locs : List Loc) (ce : Cell) (q : Addr), gw_V D cl as wd s u' H locs → gx_at s k ce q H → vx_W p l e R s m args below meth c H locs (cells + mc) (slots + ms) Q (F0 m pc ls rest) q)
    (kk : k = 0 → ∀ (H : Heap) (locs : List Loc), gw_V D cl as wd s u' H locs → W p l e R s m args below meth c H locs (cells + mc) (slots + ms) Q (F0 m (pc + 3) ls rest)) : W p l e R s m args below meth c H locs cells slots Q (F0 m pc ls st0) := by
  refine vx_callv hr V.2 (fun q _ h => rg_mono V.2.1 h) (fun q h => rg_mono V.2.1 h) (fun q _ h => rg_mono V.2.1 h) (fun E ce q9 w t H1 locs1 ht hvm hp hB hz hk hS h1 h2 h3 => ?_) (fun w t H1 locs1 ht hvm hp hB hz hk hS => ?_)
  · obtain ⟨hk0, rfl⟩ := hp
    obtain ⟨rfl, hB⟩ := hB
    exact kx hk0 H1 locs1 ce q9 ⟨by rw [← ht]; exact hB, hS⟩ ⟨h1, h2, h3⟩
  · obtain ⟨hk0, rfl⟩ := hp
    exact kk hk0 H1 locs1 ⟨by rw [← ht]; exact hB, hS⟩
theorem gx_out {Qc : Array Value → State → Outcome → State → Prop} {ce : Cell} {q : Addr} {k' : Nat} (htab : ∀ x ∈ c.exceptionTable.toList, False) (hlk : meth.locks = false) (V : gw_V D cl as wd s u H locs) (hat : gx_at s k ce q H) (h0 : ¬ k = 0) (hk : k = k') (hu : u = u') (hc : cells ≤ mc) (hs : slots ≤ ms) :
    vx_W p l e R s m args below meth c H locs cells slots (vx_MQ below Qc (vx_X (gx_Px k' u') (gx_W D cl wd k') (rg as s.heap.size)) args s mc ms (rg as s.heap.size)) (F0 m pc ls rest) q := by
  subst hk; subst hu
  exact vx_out (fun x hx => (htab x hx).elim) hlk hat.1 hat.2.1 hat.2.2 (fun t ht _ => ⟨u, ⟨h0, rfl⟩, ⟨rfl, by rw [ht]; exact V.1⟩, V.2.F ht⟩) V.2.2.2 hc hs
theorem gx_reti {XC : String → State → State → Prop} {v r : Int32} {ty : FieldType} (hexec : p.tables.exec = Jvm.exec) (hb : c.code = cc) (hr : meth.sig.returnType = some ty) (hn : narrow ty (.int v) = .int v) (hlk : meth.locks = false) (V : gw_V D cl as wd s u H locs) (hk : k = 0) (hv : v = r) (hu : u = u') (hc : cells ≤ mc) (hs : slots ≤ ms) (hdg : decode cc pc = .ok (.ireturn, 1)) :
    W p l e R s m args below meth c H locs cells slots (vx_MQ below (va_Qi (gx_Pi k r u') (gw_W D cl wd) (rg as s.heap.size)) XC args s mc ms (rg as s.heap.size)) (F0 m pc ls [.int v]) := by
  subst hv; subst hu
  refine W.widen hc hs (vx_ret ?_)
  exact W.zret hexec hb hr hn (fun t ht _ => ⟨⟨v, u, rfl, ⟨hk, rfl, rfl⟩, by show va_P D cl (wd u) t.heap; rw [ht]; exact V.1⟩, V.2.F ht⟩) V.2.2.2 hdg hlk
theorem gx_retv {XC : String → State → State → Prop} (hexec : p.tables.exec = Jvm.exec) (hb : c.code = cc) (hr : meth.sig.returnType = none) (hlk : meth.locks = false) (V : gw_V D cl as wd s u H locs) (hk : k = 0) (hu : u = u') (hc : cells ≤ mc) (hs : slots ≤ ms) (hdg : decode cc pc = .ok (.return_, 1)) :
    W p l e R s m args below meth c H locs cells slots (vx_MQ below (va_Qv (gx_Pv k u') (gw_W D cl wd) (rg as s.heap.size)) XC args s mc ms (rg as s.heap.size)) (F0 m pc ls []) := by
  subst hu
  refine W.widen hc hs (vx_ret ?_)
  exact W.vret hexec hb hr (fun t ht _ => ⟨⟨u, rfl, ⟨hk, rfl⟩, by show va_P D cl (wd u) t.heap; rw [ht]; exact V.1⟩, V.2.F ht⟩) V.2.2.2 hdg hlk
theorem gx_thr {Qc : Array Value → State → Outcome → State → Prop} {k' nL : Nat} {own E text : String} {names : List String} {ik is ic sa : Nat} {Ts Bs : List Cond} (hexec : p.tables.exec = Jvm.exec) (hb : c.code = cc) (hl9 : l.stackTraces = false) (hown : s.vm.findClass own = some m.cls) (hts : ∀ w ∈ Ts, w.before args s = true)
    (hfit : Bundle.fit E = true) (hfn : ∀ n ∈ names, Bundle.fit n = true) (h1 : Cond.classLink own ik E ∈ Ts) (h2 : Cond.initialized E ∈ Ts) (hA : ∀ w ∈ (vx_atS own ic E names).filter goodWord, w ∈ Ts) (hB : ∀ w ∈ (vx_atS own ic E names).filter (fun w => !goodWord w), w ∈ Bs) (hBs : ∀ w ∈ Bs, w.before args s = true)
    (hG : ∀ w ∈ Cond.classLink own ik E :: Cond.initialized E :: vx_atS own ic E names, vx_ot w = true) (hstr : vk_R own is text sa s) (hU : vx_Zq Bundle.tN "UNASSIGNED_STACK" Bundle.steD (rg as s.heap.size) s s.heap) (hN : vx_Zq Bundle.tN "SUPPRESSED_SENTINEL" Bundle.listD (rg as s.heap.size) s s.heap)
    (V : gw_V D cl as wd s u H locs) (htab : ∀ x ∈ c.exceptionTable.toList, False) (hsz : ls.size = nL) (hml : c.maxLocals = nL) (hlk : meth.locks = false) (hE : E = exN k') (h0 : ¬ k' = 0) (hu : u = u')
    (d0 : decode cc pc = .ok (.new ik, 3)) (d3 : decode cc (pc + 3) = .ok (.dup, 1)) (d4 : decode cc (pc + 4) = .ok (.ldc is, 2)) (d6 : decode cc (pc + 6) = .ok (.invokespecial ic, 3)) (d9 : decode cc (pc + 9) = .ok (.athrow, 1))
    (hRf : names.length + 3 < R.frames) (hRl : (rest.map fun v => v.category).sum + (13 * (names.length + 1) + 43) ≤ R.locals) (hRc : cells + 1 ≤ R.cells) (hRs : slots + 6 ≤ R.slots) (hc : cells + 1 ≤ mc) (hs : slots + 6 ≤ ms) :
    W p l e R s m args below meth c H locs cells slots (vx_MQ below Qc (vx_X (gx_Px k' u') (gx_W D cl wd k') (rg as s.heap.size)) args s mc ms (rg as s.heap.size)) (F0 m pc ls rest) := by
  subst hu
  refine vx_throwS hexec hb hl9 hown hfit hfn (hts _ h1) (hts _ h2) hstr (vx_hat (fun w hw => hts w (hA w hw)) hB hBs) hG hU hN V.2 (hsz.trans hml.symm) d0 d3 d4 d6 d9 (fun x hx => (htab x hx).elim) hRf hRl hRc hRs hlk (fun t _ hz hk => ?_) V.2.2.2 hc hs
  refine ⟨u, ⟨h0, rfl⟩, ⟨hE, ?_⟩, ?_⟩
  · exact V.1.kept (fun j q hq => hk q.1 (V.1 j q hq).lt)
  · exact ⟨Nat.le_trans V.2.1 hz, fun q h1 h2 => by rw [hk q (Nat.lt_of_lt_of_le h1 V.2.1)]; exact V.2.2.1 q h1 h2⟩
end GXR
section GXE
variable {σ : Type} {l : Launch} {y : MethodName} {ws ws' : List Cond} {rm : Room} {cc : ByteArray} {maxL : Nat} {ret : Option FieldType} {D : va_G} {cl : List vw_C} {tys : List (ClassId × FieldType)} {as : List Nat} {X : (Nat → Prop) → State → Heap → Prop} {wd : σ → va_W} {u : σ} {sz : Nat} {As : List Value}
theorem gx_Mof {Qc : Nat → Array Value → State → Outcome → State → Prop} {XC : Nat → String → State → State → Prop} {mc ms : Nat} (hy : plainName y.cls = true) (hw : ws = Cond.code y cc maxL ret :: ws')
    (body : ∀ (p : Program) (e : Env) (s : State) (m : MethodId) (below : List Frame) (meth : Method) (c : Code), gw_B p s m As.toArray meth c cc maxL ret y.cls ws' → (∀ x ∈ c.exceptionTable.toList, False) → gw_C D cl tys as X s → gw_V D cl as wd s u s.heap [] →
      W p l e rm s m As.toArray below meth c s.heap [] 0 0 (vx_MQ below (Qc s.heap.size) (XC s.heap.size) As.toArray s mc ms (rg as s.heap.size)) (entryFrame m As.toArray maxL)) :
    vx_Met l y ws rm (va_Pc As (gw_pre D cl tys as X wd sz u)) (Qc sz) (XC sz) mc ms (rg as sz) := by
  refine vx_ofW (cc := cc) (maxL := maxL) (ret := ret) hy hw ?_
  intro p e s m args below meth c s₁ B hml htab hv
  obtain ⟨rfl, rfl, hP, C⟩ := hv
  exact body p e s m below meth c ⟨B.exec, B.bytes, hml, findClass_of_methodNamed B.named, fun w h => atoms_spec (ws := ws) B.pre w (by rw [hw]; exact List.mem_cons_of_mem _ h), B.returns, B.notSynchronized⟩ htab C ⟨hP, va_S.rf⟩
end GXE
