def gk (k : Nat) : Nat := if k = 0 then 0 else 1
theorem gk_0 {k : Nat} (h : k = 0) : gk k = 0 := by unfold gk; rw [if_pos h]
theorem gk_1 {k : Nat} (h : ¬ k = 0) : gk k = 1 := by unfold gk; rw [if_neg h]
theorem gk_le {v k : Nat} (h : ¬ v = 0 → v = k) : gk v ≤ gk k := by
  by_cases q : v = 0
  · rw [gk_0 q]; exact Nat.zero_le _
  · rw [h q]; exact Nat.le_refl _
theorem gkr {v k : Nat} (h : gk v ≤ gk k) : 0 + gk v ≤ gk k ∧ 0 + 6 * gk v ≤ 6 * gk k := ⟨by omega, by omega⟩
theorem gk1 {k : Nat} (h : ¬ k = 0) : 0 + 1 ≤ gk k ∧ 0 + 6 ≤ 6 * gk k := by rw [gk_1 h]; exact ⟨Nat.le_refl _, Nat.le_refl _⟩
theorem gkb (k : Nat) : 0 + gk k ≤ 1 ∧ 0 + 6 * gk k ≤ 6 := by
  by_cases q : k = 0
  · rw [gk_0 q]; exact ⟨by decide, by decide⟩
  · rw [gk_1 q]; exact ⟨by decide, by decide⟩
section GY
variable {σ : Type} {p : Program} {l : Launch} {e : Env} {R : Room} {s : State} {m : MethodId} {args : Array Value} {below : List Frame} {meth : Method} {c : Code} {H : Heap} {locs : List Loc} {cells slots : Nat} {Q : State → Prop}
variable {pc : Nat} {ls : Array Slot} {rest st0 : List Value} {a : Array Value}
variable {D : va_G} {cl : List vw_C} {as as2 : List Nat} {wd : σ → va_W} {u u' : σ} {k : Nat} {w2 : va_W}
theorem gy_ki {r : Int32} (V : gw_V D cl as wd s u H locs) (hr : vx_Run p l e R s m args below meth c H locs cells slots (gk k) (6 * gk k) (F0 m pc ls st0) rest (va_Qi (gx_Pi k r u') (gw_W D cl wd) (rg as H.size) a) (vx_X (gx_Px k u') (gx_W D cl wd k) (rg as H.size)) (rg as H.size))
    (kx : ¬ k = 0 → ∀ (H : Heap) (locs : List Loc) (ce : Cell) (q : Addr), gw_V D cl as wd s u' H locs → gx_at s k ce q H → vx_W p l e R s m args below meth c H locs (cells + 1) (slots + 6) Q (F0 m pc ls rest) q)
    (kk : k = 0 → ∀ (H : Heap) (locs : List Loc), gw_V D cl as wd s u' H locs → W p l e R s m args below meth c H locs cells slots Q (F0 m (pc + 3) ls (.int r :: rest))) : W p l e R s m args below meth c H locs cells slots Q (F0 m pc ls st0) :=
  gx_ki V hr (fun h H locs ce q V hat => by rw [gk_1 h]; exact kx h H locs ce q V hat) (fun h H locs V => by rw [gk_0 h]; exact kk h H locs V)
theorem gy_kv (V : gw_V D cl as wd s u H locs) (hr : vx_Run p l e R s m args below meth c H locs cells slots (gk k) (6 * gk k) (F0 m pc ls st0) rest (va_Qv (gx_Pv k u') (gw_W D cl wd) (rg as H.size) a) (vx_X (gx_Px k u') (gx_W D cl wd k) (rg as H.size)) (rg as H.size))
    (kx : ¬ k = 0 → ∀ (H : Heap) (locs : List Loc) (ce : Cell) (q : Addr), gw_V D cl as wd s u' H locs → gx_at s k ce q H → vx_W p l e R s m args below meth c H locs (cells + 1) (slots + 6) Q (F0 m pc ls rest) q)
    (kk : k = 0 → ∀ (H : Heap) (locs : List Loc), gw_V D cl as wd s u' H locs → W p l e R s m args below meth c H locs cells slots Q (F0 m (pc + 3) ls rest)) : W p l e R s m args below meth c H locs cells slots Q (F0 m pc ls st0) :=
  gx_kv V hr (fun h H locs ce q V hat => by rw [gk_1 h]; exact kx h H locs ce q V hat) (fun h H locs V => by rw [gk_0 h]; exact kk h H locs V)
theorem gz_xki {v : Int32} (hS : va_S (rg as2 s.heap.size) s.heap H locs) (hle : ∀ q ∈ as, q ∈ as2) (hr : vx_Run p l e R s m args below meth c H locs cells slots (gk k) (6 * gk k) (F0 m pc ls st0) rest (va_Qi (gx_Pi k v u') (gw_W D cl wd) (rg as H.size) a) (vx_X (gx_Px k u') (gx_W D cl wd k) (rg as H.size)) (rg as H.size))
    (hj : ∀ H1 : Heap, va_P D cl (wd u') H1 → (∀ q : Nat, q < H.size → ¬ rg as H.size q → H1[q]? = H[q]?) → va_P D cl w2 H1)
    (kx : ¬ k = 0 → ∀ (H : Heap) (locs : List Loc) (ce : Cell) (q : Addr), va_P D cl w2 H → va_S (rg as2 s.heap.size) s.heap H locs → gx_at s k ce q H → vx_W p l e R s m args below meth c H locs (cells + 1) (slots + 6) Q (F0 m pc ls rest) q)
    (kk : k = 0 → ∀ (H : Heap) (locs : List Loc), va_P D cl w2 H → va_S (rg as2 s.heap.size) s.heap H locs → W p l e R s m args below meth c H locs cells slots Q (F0 m (pc + 3) ls (.int v :: rest))) : W p l e R s m args below meth c H locs cells slots Q (F0 m pc ls st0) :=
  gs_xki hS hle hr hj (fun h H locs ce q a1 a2 hat => by rw [gk_1 h]; exact kx h H locs ce q a1 a2 hat) (fun h H locs a1 a2 => by rw [gk_0 h]; exact kk h H locs a1 a2)
theorem gz_xkv (hS : va_S (rg as2 s.heap.size) s.heap H locs) (hle : ∀ q ∈ as, q ∈ as2) (hr : vx_Run p l e R s m args below meth c H locs cells slots (gk k) (6 * gk k) (F0 m pc ls st0) rest (va_Qv (gx_Pv k u') (gw_W D cl wd) (rg as H.size) a) (vx_X (gx_Px k u') (gx_W D cl wd k) (rg as H.size)) (rg as H.size))
    (hj : ∀ H1 : Heap, va_P D cl (wd u') H1 → (∀ q : Nat, q < H.size → ¬ rg as H.size q → H1[q]? = H[q]?) → va_P D cl w2 H1)
    (kx : ¬ k = 0 → ∀ (H : Heap) (locs : List Loc) (ce : Cell) (q : Addr), va_P D cl w2 H → va_S (rg as2 s.heap.size) s.heap H locs → gx_at s k ce q H → vx_W p l e R s m args below meth c H locs (cells + 1) (slots + 6) Q (F0 m pc ls rest) q)
    (kk : k = 0 → ∀ (H : Heap) (locs : List Loc), va_P D cl w2 H → va_S (rg as2 s.heap.size) s.heap H locs → W p l e R s m args below meth c H locs cells slots Q (F0 m (pc + 3) ls rest)) : W p l e R s m args below meth c H locs cells slots Q (F0 m pc ls st0) :=
  gs_xkv hS hle hr hj (fun h H locs ce q a1 a2 hat => by rw [gk_1 h]; exact kx h H locs ce q a1 a2 hat) (fun h H locs a1 a2 => by rw [gk_0 h]; exact kk h H locs a1 a2)
end GY
