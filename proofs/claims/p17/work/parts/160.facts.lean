def gEs : List String := ["java/lang/RuntimeException", "java/lang/Exception"]
def gB : List Cond := [.methodLinkNest RX2 22 yX4_eastOf "CallJoin", .methodLinkNest RX2 26 yX4_northOf "CallJoin", .methodLinkNest RX2 29 yX4_squareBetween "CallJoin", .declares (Bundle.initS "java/lang/RuntimeException"), .declares (Bundle.initS "java/lang/Exception"), .declares (Bundle.initS Bundle.tN), .castable "java/lang/IllegalArgumentException" "java/lang/IllegalArgumentException", .castable "java/lang/IndexOutOfBoundsException" "java/lang/IndexOutOfBoundsException", .castable "java/lang/IllegalStateException" "java/lang/IllegalStateException", .castable "java/lang/UnsupportedOperationException" "java/lang/UnsupportedOperationException", .castable "java/lang/ArithmeticException" "java/lang/ArithmeticException"]
def gNc : List (String × String) := [("java/lang/IndexOutOfBoundsException", "java/lang/IllegalArgumentException"), ("java/lang/UnsupportedOperationException", "java/lang/IllegalArgumentException"), ("java/lang/UnsupportedOperationException", "java/lang/IndexOutOfBoundsException"), ("java/lang/IllegalStateException", "java/lang/IllegalArgumentException"), ("java/lang/UnsupportedOperationException", "java/lang/IllegalStateException"), ("java/lang/IllegalStateException", "java/lang/IndexOutOfBoundsException"), ("java/lang/ArithmeticException", "java/lang/IllegalArgumentException")]
def gX (A : Nat → Prop) (U : State) (H : Heap) : Prop := (∀ w ∈ gB, va_Nw w U) ∧ (∀ q ∈ gNc, va_Nc q.1 q.2 U) ∧ (∃ q, vk_R RX4 192 "an unknown number" q U) ∧ (∃ q, vk_R RX4 197 "a number outside its range" q U) ∧ (∃ q, vk_R RX4 202 "not in this state" q U) ∧ (∃ q, vk_R RX4 207 "no room" q U) ∧ (∃ q, vk_R RX4 162 "there is no share" q U) ∧ vx_Zq Bundle.tN "UNASSIGNED_STACK" Bundle.steD A U H ∧ vx_Zq Bundle.tN "SUPPRESSED_SENTINEL" Bundle.listD A U H
def gNw : Cond → Bool
  | .declares _ | .castable .. | .methodLinkNest .. | .fieldLinkNest .. => true
  | _ => false
theorem gNw_t {w : Cond} (h : gNw w = true) : w.onTables = true := by cases w <;> first | rfl | (simp [gNw] at h)
theorem gNw_w {w : Cond} (h : gNw w = true) {s U : State} (hW : s.WarmedH U.vm) (hZ : va_Nw w s) : va_Nw w U := by
  cases w <;> first | exact va_Nw.warmD hW hZ | exact va_Nw.warmC hW hZ | exact va_Nw.warmM hW hZ | exact va_Nw.warmF hW hZ | (simp [gNw] at h)
theorem gB_k : ∀ w ∈ gB, gNw w = true := by decide +kernel
theorem gX_ok : gw_ok gX := by
  refine ⟨fun A U V H hv h => ?_, fun A s U H hW h => ?_, fun A U H H1 hk h => ?_, fun A B U H hAB h => ?_⟩ <;> obtain ⟨hB, hN, hs0, hs1, hs2, hs3, hs4, hU, hV⟩ := h
  · exact ⟨fun w hw => va_Nw.same (gNw_t (gB_k w hw)) hv.symm (hB w hw), fun q hq => va_Nc.moved (hv ▸ Vm.Alike.refl U.vm) (hN q hq), hs0.imp (fun _ q => vk_R.same hv q), hs1.imp (fun _ q => vk_R.same hv q), hs2.imp (fun _ q => vk_R.same hv q), hs3.imp (fun _ q => vk_R.same hv q), hs4.imp (fun _ q => vk_R.same hv q), hU.moved (hv ▸ Vm.Alike.refl U.vm), hV.moved (hv ▸ Vm.Alike.refl U.vm)⟩
  · exact ⟨fun w hw => gNw_w (gB_k w hw) hW (hB w hw), fun q hq => va_Nc.moved hW.alike (hN q hq), hs0.imp (fun _ q => vk_R.warm hW q), hs1.imp (fun _ q => vk_R.warm hW q), hs2.imp (fun _ q => vk_R.warm hW q), hs3.imp (fun _ q => vk_R.warm hW q), hs4.imp (fun _ q => vk_R.warm hW q), hU.moved hW.alike, hV.moved hW.alike⟩
  · exact ⟨hB, hN, hs0, hs1, hs2, hs3, hs4, hU.kept hk, hV.kept hk⟩
  · exact ⟨hB, hN, hs0, hs1, hs2, hs3, hs4, hU.narrow hAB, hV.narrow hAB⟩
theorem gX_n {A : Nat → Prop} {U : State} {H : Heap} (h : gX A U H) (w : Cond) (hw : w ∈ gB) : va_Nw w U := h.1 w hw
theorem gX_b {A : Nat → Prop} {U : State} {H : Heap} (h : gX A U H) {args : Array Value} : ∀ w ∈ gB, w.before args U = true := fun w hw => va_Nw.use (gNw_t (gB_k w hw)) (h.1 w hw)
theorem gX_c {A : Nat → Prop} {U : State} {H : Heap} (h : gX A U H) {E T : String} (hq : (E, T) ∈ gNc) : va_Nc E T U := h.2.1 (E, T) hq
theorem gX_s1 {A : Nat → Prop} {U : State} {H : Heap} (h : gX A U H) : ∃ q, vk_R RX4 192 "an unknown number" q U := h.2.2.1
theorem gX_s2 {A : Nat → Prop} {U : State} {H : Heap} (h : gX A U H) : ∃ q, vk_R RX4 197 "a number outside its range" q U := h.2.2.2.1
theorem gX_s3 {A : Nat → Prop} {U : State} {H : Heap} (h : gX A U H) : ∃ q, vk_R RX4 202 "not in this state" q U := h.2.2.2.2.1
theorem gX_s4 {A : Nat → Prop} {U : State} {H : Heap} (h : gX A U H) : ∃ q, vk_R RX4 207 "no room" q U := h.2.2.2.2.2.1
theorem gX_s5 {A : Nat → Prop} {U : State} {H : Heap} (h : gX A U H) : ∃ q, vk_R RX4 162 "there is no share" q U := h.2.2.2.2.2.2.1
theorem gX_u {A : Nat → Prop} {U : State} {H : Heap} (h : gX A U H) : vx_Zq Bundle.tN "UNASSIGNED_STACK" Bundle.steD A U H := h.2.2.2.2.2.2.2.1
theorem gX_v {A : Nat → Prop} {U : State} {H : Heap} (h : gX A U H) : vx_Zq Bundle.tN "SUPPRESSED_SENTINEL" Bundle.listD A U H := h.2.2.2.2.2.2.2.2
theorem tA_1 : ∀ w ∈ (vx_atS RX4 194 "java/lang/IllegalArgumentException" gEs).filter goodWord, w ∈ gT := fun w hw => gT_of ((by decide +kernel : ∀ w ∈ (vx_atS RX4 194 "java/lang/IllegalArgumentException" gEs).filter goodWord, w ∈ lw_tbl) w hw) (List.mem_filter.mp hw).2
theorem tB_1 : ∀ w ∈ (vx_atS RX4 194 "java/lang/IllegalArgumentException" gEs).filter (fun w => !goodWord w), w ∈ gB := by decide +kernel
theorem tG_1 : ∀ w ∈ Cond.classLink RX4 190 "java/lang/IllegalArgumentException" :: Cond.initialized "java/lang/IllegalArgumentException" :: vx_atS RX4 194 "java/lang/IllegalArgumentException" gEs, vx_ot w = true := by decide +kernel
theorem tA_2 : ∀ w ∈ (vx_atS RX4 199 "java/lang/IndexOutOfBoundsException" gEs).filter goodWord, w ∈ gT := fun w hw => gT_of ((by decide +kernel : ∀ w ∈ (vx_atS RX4 199 "java/lang/IndexOutOfBoundsException" gEs).filter goodWord, w ∈ lw_tbl) w hw) (List.mem_filter.mp hw).2
theorem tB_2 : ∀ w ∈ (vx_atS RX4 199 "java/lang/IndexOutOfBoundsException" gEs).filter (fun w => !goodWord w), w ∈ gB := by decide +kernel
theorem tG_2 : ∀ w ∈ Cond.classLink RX4 195 "java/lang/IndexOutOfBoundsException" :: Cond.initialized "java/lang/IndexOutOfBoundsException" :: vx_atS RX4 199 "java/lang/IndexOutOfBoundsException" gEs, vx_ot w = true := by decide +kernel
theorem tA_3 : ∀ w ∈ (vx_atS RX4 204 "java/lang/IllegalStateException" gEs).filter goodWord, w ∈ gT := fun w hw => gT_of ((by decide +kernel : ∀ w ∈ (vx_atS RX4 204 "java/lang/IllegalStateException" gEs).filter goodWord, w ∈ lw_tbl) w hw) (List.mem_filter.mp hw).2
theorem tB_3 : ∀ w ∈ (vx_atS RX4 204 "java/lang/IllegalStateException" gEs).filter (fun w => !goodWord w), w ∈ gB := by decide +kernel
theorem tG_3 : ∀ w ∈ Cond.classLink RX4 200 "java/lang/IllegalStateException" :: Cond.initialized "java/lang/IllegalStateException" :: vx_atS RX4 204 "java/lang/IllegalStateException" gEs, vx_ot w = true := by decide +kernel
theorem tA_4 : ∀ w ∈ (vx_atS RX4 209 "java/lang/UnsupportedOperationException" gEs).filter goodWord, w ∈ gT := fun w hw => gT_of ((by decide +kernel : ∀ w ∈ (vx_atS RX4 209 "java/lang/UnsupportedOperationException" gEs).filter goodWord, w ∈ lw_tbl) w hw) (List.mem_filter.mp hw).2
theorem tB_4 : ∀ w ∈ (vx_atS RX4 209 "java/lang/UnsupportedOperationException" gEs).filter (fun w => !goodWord w), w ∈ gB := by decide +kernel
theorem tG_4 : ∀ w ∈ Cond.classLink RX4 205 "java/lang/UnsupportedOperationException" :: Cond.initialized "java/lang/UnsupportedOperationException" :: vx_atS RX4 209 "java/lang/UnsupportedOperationException" gEs, vx_ot w = true := by decide +kernel
theorem tA_5 : ∀ w ∈ (vx_atS RX4 164 "java/lang/ArithmeticException" gEs).filter goodWord, w ∈ gT := fun w hw => gT_of ((by decide +kernel : ∀ w ∈ (vx_atS RX4 164 "java/lang/ArithmeticException" gEs).filter goodWord, w ∈ lw_tbl) w hw) (List.mem_filter.mp hw).2
theorem tB_5 : ∀ w ∈ (vx_atS RX4 164 "java/lang/ArithmeticException" gEs).filter (fun w => !goodWord w), w ∈ gB := by decide +kernel
theorem tG_5 : ∀ w ∈ Cond.classLink RX4 160 "java/lang/ArithmeticException" :: Cond.initialized "java/lang/ArithmeticException" :: vx_atS RX4 164 "java/lang/ArithmeticException" gEs, vx_ot w = true := by decide +kernel
