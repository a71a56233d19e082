section
def lw_okq (q : MethodName × Nat) : Prop := (q.1.cls ≠ "java/lang/invoke/MethodHandle" ∧ q.1.cls ≠ "java/lang/invoke/VarHandle") ∧ Cond.instantiable q.1.cls q.2 ∈ tables_1 ∧ Cond.privateMethod q.1 ∈ tables_1 ∧ Cond.instanceMethod q.1 ∈ tables_1
theorem lw_p0 : lw_okq (⟨"java/lang/Throwable", "fillInStackTrace", "(I)Ljava/lang/Throwable;"⟩, 6) := ⟨⟨by decide +kernel, by decide +kernel⟩, List.mem_of_getElem? (i := 225) (by decide +kernel), List.mem_of_getElem? (i := 223) (by decide +kernel), List.mem_of_getElem? (i := 224) (by decide +kernel)⟩
theorem lw_p1 : lw_okq (⟨"CallJoin", "needCallData", "(IIIII)V"⟩, 4) := ⟨⟨by decide +kernel, by decide +kernel⟩, List.mem_of_getElem? (i := 18) (by decide +kernel), List.mem_of_getElem? (i := 321) (by decide +kernel), List.mem_of_getElem? (i := 322) (by decide +kernel)⟩
theorem lw_p2 : lw_okq (⟨"CallJoin", "seekReason", "(I)V"⟩, 4) := ⟨⟨by decide +kernel, by decide +kernel⟩, List.mem_of_getElem? (i := 18) (by decide +kernel), List.mem_of_getElem? (i := 333) (by decide +kernel), List.mem_of_getElem? (i := 334) (by decide +kernel)⟩
theorem lw_p3 : lw_okq (⟨"CallJoin", "latestOfLine", "(I)I"⟩, 4) := ⟨⟨by decide +kernel, by decide +kernel⟩, List.mem_of_getElem? (i := 18) (by decide +kernel), List.mem_of_getElem? (i := 337) (by decide +kernel), List.mem_of_getElem? (i := 338) (by decide +kernel)⟩
theorem lw_p4 : lw_okq (⟨"CallJoin", "canBeReason", "(I)Z"⟩, 4) := ⟨⟨by decide +kernel, by decide +kernel⟩, List.mem_of_getElem? (i := 18) (by decide +kernel), List.mem_of_getElem? (i := 341) (by decide +kernel), List.mem_of_getElem? (i := 342) (by decide +kernel)⟩
theorem lw_p5 : lw_okq (⟨"CallJoin", "isInOpenEvent", "(I)Z"⟩, 4) := ⟨⟨by decide +kernel, by decide +kernel⟩, List.mem_of_getElem? (i := 18) (by decide +kernel), List.mem_of_getElem? (i := 349) (by decide +kernel), List.mem_of_getElem? (i := 350) (by decide +kernel)⟩
theorem lw_p6 : lw_okq (⟨"CallJoin", "isWithinSpan", "(II)Z"⟩, 4) := ⟨⟨by decide +kernel, by decide +kernel⟩, List.mem_of_getElem? (i := 18) (by decide +kernel), List.mem_of_getElem? (i := 353) (by decide +kernel), List.mem_of_getElem? (i := 354) (by decide +kernel)⟩
theorem lw_p7 : lw_okq (⟨"CallJoin", "takeReason", "(III)Z"⟩, 4) := ⟨⟨by decide +kernel, by decide +kernel⟩, List.mem_of_getElem? (i := 18) (by decide +kernel), List.mem_of_getElem? (i := 357) (by decide +kernel), List.mem_of_getElem? (i := 358) (by decide +kernel)⟩
theorem lw_p8 : lw_okq (⟨"CallJoin", "firstOnStretch", "(I)I"⟩, 4) := ⟨⟨by decide +kernel, by decide +kernel⟩, List.mem_of_getElem? (i := 18) (by decide +kernel), List.mem_of_getElem? (i := 361) (by decide +kernel), List.mem_of_getElem? (i := 362) (by decide +kernel)⟩
theorem lw_p9 : lw_okq (⟨"CallJoin", "isOnStretch", "(II)Z"⟩, 4) := ⟨⟨by decide +kernel, by decide +kernel⟩, List.mem_of_getElem? (i := 18) (by decide +kernel), List.mem_of_getElem? (i := 369) (by decide +kernel), List.mem_of_getElem? (i := 370) (by decide +kernel)⟩
theorem lw_p10 : lw_okq (⟨"CallJoin", "nearestByPlace", "(I)I"⟩, 4) := ⟨⟨by decide +kernel, by decide +kernel⟩, List.mem_of_getElem? (i := 18) (by decide +kernel), List.mem_of_getElem? (i := 392) (by decide +kernel), List.mem_of_getElem? (i := 393) (by decide +kernel)⟩
theorem lw_p11 : lw_okq (⟨"CallJoin", "isCandidate", "(II)Z"⟩, 4) := ⟨⟨by decide +kernel, by decide +kernel⟩, List.mem_of_getElem? (i := 18) (by decide +kernel), List.mem_of_getElem? (i := 396) (by decide +kernel), List.mem_of_getElem? (i := 397) (by decide +kernel)⟩
theorem lw_p12 : lw_okq (⟨"CallJoin", "agreement", "(II)I"⟩, 4) := ⟨⟨by decide +kernel, by decide +kernel⟩, List.mem_of_getElem? (i := 18) (by decide +kernel), List.mem_of_getElem? (i := 400) (by decide +kernel), List.mem_of_getElem? (i := 401) (by decide +kernel)⟩
theorem lw_p13 : lw_okq (⟨"CallJoin", "greatestShare", "(I)I"⟩, 4) := ⟨⟨by decide +kernel, by decide +kernel⟩, List.mem_of_getElem? (i := 18) (by decide +kernel), List.mem_of_getElem? (i := 414) (by decide +kernel), List.mem_of_getElem? (i := 415) (by decide +kernel)⟩
theorem lw_p14 : lw_okq (⟨"CallJoin$Calls", "isUnder", "(II)Z"⟩, 11) := ⟨⟨by decide +kernel, by decide +kernel⟩, List.mem_of_getElem? (i := 71) (by decide +kernel), List.mem_of_getElem? (i := 467) (by decide +kernel), List.mem_of_getElem? (i := 468) (by decide +kernel)⟩
theorem lw_p15 : lw_okq (⟨"CallJoin", "needTwoCalls", "(II)V"⟩, 4) := ⟨⟨by decide +kernel, by decide +kernel⟩, List.mem_of_getElem? (i := 18) (by decide +kernel), List.mem_of_getElem? (i := 514) (by decide +kernel), List.mem_of_getElem? (i := 515) (by decide +kernel)⟩
def lw_privs_1 : List (MethodName × Nat) := [(⟨"java/lang/Throwable", "fillInStackTrace", "(I)Ljava/lang/Throwable;"⟩, 6), (⟨"CallJoin", "needCallData", "(IIIII)V"⟩, 4), (⟨"CallJoin", "seekReason", "(I)V"⟩, 4), (⟨"CallJoin", "latestOfLine", "(I)I"⟩, 4), (⟨"CallJoin", "canBeReason", "(I)Z"⟩, 4), (⟨"CallJoin", "isInOpenEvent", "(I)Z"⟩, 4), (⟨"CallJoin", "isWithinSpan", "(II)Z"⟩, 4), (⟨"CallJoin", "takeReason", "(III)Z"⟩, 4), (⟨"CallJoin", "firstOnStretch", "(I)I"⟩, 4), (⟨"CallJoin", "isOnStretch", "(II)Z"⟩, 4), (⟨"CallJoin", "nearestByPlace", "(I)I"⟩, 4), (⟨"CallJoin", "isCandidate", "(II)Z"⟩, 4), (⟨"CallJoin", "agreement", "(II)I"⟩, 4), (⟨"CallJoin", "greatestShare", "(I)I"⟩, 4), (⟨"CallJoin$Calls", "isUnder", "(II)Z"⟩, 11), (⟨"CallJoin", "needTwoCalls", "(II)V"⟩, 4)]
theorem lw_r1 : ∀ q ∈ lw_privs_1, lw_okq q := List.forall_mem_cons.mpr ⟨lw_p0, List.forall_mem_cons.mpr ⟨lw_p1, List.forall_mem_cons.mpr ⟨lw_p2, List.forall_mem_cons.mpr ⟨lw_p3, List.forall_mem_cons.mpr ⟨lw_p4, List.forall_mem_cons.mpr ⟨lw_p5, List.forall_mem_cons.mpr ⟨lw_p6, List.forall_mem_cons.mpr ⟨lw_p7, List.forall_mem_cons.mpr ⟨lw_p8, List.forall_mem_cons.mpr ⟨lw_p9, List.forall_mem_cons.mpr ⟨lw_p10, List.forall_mem_cons.mpr ⟨lw_p11, List.forall_mem_cons.mpr ⟨lw_p12, List.forall_mem_cons.mpr ⟨lw_p13, List.forall_mem_cons.mpr ⟨lw_p14, List.forall_mem_cons.mpr ⟨lw_p15, fun _ h => absurd h List.not_mem_nil⟩⟩⟩⟩⟩⟩⟩⟩⟩⟩⟩⟩⟩⟩⟩⟩
theorem lw_p16 : lw_okq (⟨"CallJoin$Calls", "weighCall", "(I)I"⟩, 11) := ⟨⟨by decide +kernel, by decide +kernel⟩, List.mem_of_getElem? (i := 71) (by decide +kernel), List.mem_of_getElem? (i := 560) (by decide +kernel), List.mem_of_getElem? (i := 561) (by decide +kernel)⟩
theorem lw_p17 : lw_okq (⟨"CallJoinModel", "throwing", "(ZZZ)Z"⟩, 24) := ⟨⟨by decide +kernel, by decide +kernel⟩, List.mem_of_getElem? (i := 598) (by decide +kernel), List.mem_of_getElem? (i := 692) (by decide +kernel), List.mem_of_getElem? (i := 693) (by decide +kernel)⟩
theorem lw_p18 : lw_okq (⟨"CallJoinModel", "isRange", "(III)Z"⟩, 24) := ⟨⟨by decide +kernel, by decide +kernel⟩, List.mem_of_getElem? (i := 598) (by decide +kernel), List.mem_of_getElem? (i := 718) (by decide +kernel), List.mem_of_getElem? (i := 719) (by decide +kernel)⟩
theorem lw_p19 : lw_okq (⟨"CallJoinModel", "reason", "(IIIIII)I"⟩, 24) := ⟨⟨by decide +kernel, by decide +kernel⟩, List.mem_of_getElem? (i := 598) (by decide +kernel), List.mem_of_getElem? (i := 722) (by decide +kernel), List.mem_of_getElem? (i := 723) (by decide +kernel)⟩
theorem lw_p20 : lw_okq (⟨"CallJoinModel", "again", "(III)I"⟩, 24) := ⟨⟨by decide +kernel, by decide +kernel⟩, List.mem_of_getElem? (i := 598) (by decide +kernel), List.mem_of_getElem? (i := 726) (by decide +kernel), List.mem_of_getElem? (i := 727) (by decide +kernel)⟩
theorem lw_p21 : lw_okq (⟨"CallJoinModel", "isOpen", "(I)Z"⟩, 24) := ⟨⟨by decide +kernel, by decide +kernel⟩, List.mem_of_getElem? (i := 598) (by decide +kernel), List.mem_of_getElem? (i := 730) (by decide +kernel), List.mem_of_getElem? (i := 731) (by decide +kernel)⟩
theorem lw_p22 : lw_okq (⟨"CallJoinModel", "isHoax", "(I)Z"⟩, 24) := ⟨⟨by decide +kernel, by decide +kernel⟩, List.mem_of_getElem? (i := 598) (by decide +kernel), List.mem_of_getElem? (i := 734) (by decide +kernel), List.mem_of_getElem? (i := 735) (by decide +kernel)⟩
theorem lw_p23 : lw_okq (⟨"CallJoinModel", "onStretch", "(III)I"⟩, 24) := ⟨⟨by decide +kernel, by decide +kernel⟩, List.mem_of_getElem? (i := 598) (by decide +kernel), List.mem_of_getElem? (i := 738) (by decide +kernel), List.mem_of_getElem? (i := 739) (by decide +kernel)⟩
theorem lw_p24 : lw_okq (⟨"CallJoinModel", "firstOf", "(I)I"⟩, 24) := ⟨⟨by decide +kernel, by decide +kernel⟩, List.mem_of_getElem? (i := 598) (by decide +kernel), List.mem_of_getElem? (i := 742) (by decide +kernel), List.mem_of_getElem? (i := 743) (by decide +kernel)⟩
theorem lw_p25 : lw_okq (⟨"CallJoinModel", "isOn", "(III)Z"⟩, 24) := ⟨⟨by decide +kernel, by decide +kernel⟩, List.mem_of_getElem? (i := 598) (by decide +kernel), List.mem_of_getElem? (i := 746) (by decide +kernel), List.mem_of_getElem? (i := 747) (by decide +kernel)⟩
theorem lw_p26 : lw_okq (⟨"CallJoinModel", "agreeing", "(IIIII)I"⟩, 24) := ⟨⟨by decide +kernel, by decide +kernel⟩, List.mem_of_getElem? (i := 598) (by decide +kernel), List.mem_of_getElem? (i := 757) (by decide +kernel), List.mem_of_getElem? (i := 758) (by decide +kernel)⟩
theorem lw_p27 : lw_okq (⟨"CallJoinModel", "meets", "(IIIII)I"⟩, 24) := ⟨⟨by decide +kernel, by decide +kernel⟩, List.mem_of_getElem? (i := 598) (by decide +kernel), List.mem_of_getElem? (i := 761) (by decide +kernel), List.mem_of_getElem? (i := 762) (by decide +kernel)⟩
theorem lw_p28 : lw_okq (⟨"CallJoinModel", "sum", "(II)I"⟩, 24) := ⟨⟨by decide +kernel, by decide +kernel⟩, List.mem_of_getElem? (i := 598) (by decide +kernel), List.mem_of_getElem? (i := 765) (by decide +kernel), List.mem_of_getElem? (i := 766) (by decide +kernel)⟩
theorem lw_p29 : lw_okq (⟨"CallJoinModel", "isEnough", "(III)Z"⟩, 24) := ⟨⟨by decide +kernel, by decide +kernel⟩, List.mem_of_getElem? (i := 598) (by decide +kernel), List.mem_of_getElem? (i := 769) (by decide +kernel), List.mem_of_getElem? (i := 770) (by decide +kernel)⟩
theorem lw_p30 : lw_okq (⟨"CallJoinModel", "isBetter", "(IIIII)Z"⟩, 24) := ⟨⟨by decide +kernel, by decide +kernel⟩, List.mem_of_getElem? (i := 598) (by decide +kernel), List.mem_of_getElem? (i := 774) (by decide +kernel), List.mem_of_getElem? (i := 775) (by decide +kernel)⟩
theorem lw_p31 : lw_okq (⟨"CallJoinModel", "newEvent", "()I"⟩, 24) := ⟨⟨by decide +kernel, by decide +kernel⟩, List.mem_of_getElem? (i := 598) (by decide +kernel), List.mem_of_getElem? (i := 778) (by decide +kernel), List.mem_of_getElem? (i := 779) (by decide +kernel)⟩
def lw_privs_2 : List (MethodName × Nat) := [(⟨"CallJoin$Calls", "weighCall", "(I)I"⟩, 11), (⟨"CallJoinModel", "throwing", "(ZZZ)Z"⟩, 24), (⟨"CallJoinModel", "isRange", "(III)Z"⟩, 24), (⟨"CallJoinModel", "reason", "(IIIIII)I"⟩, 24), (⟨"CallJoinModel", "again", "(III)I"⟩, 24), (⟨"CallJoinModel", "isOpen", "(I)Z"⟩, 24), (⟨"CallJoinModel", "isHoax", "(I)Z"⟩, 24), (⟨"CallJoinModel", "onStretch", "(III)I"⟩, 24), (⟨"CallJoinModel", "firstOf", "(I)I"⟩, 24), (⟨"CallJoinModel", "isOn", "(III)Z"⟩, 24), (⟨"CallJoinModel", "agreeing", "(IIIII)I"⟩, 24), (⟨"CallJoinModel", "meets", "(IIIII)I"⟩, 24), (⟨"CallJoinModel", "sum", "(II)I"⟩, 24), (⟨"CallJoinModel", "isEnough", "(III)Z"⟩, 24), (⟨"CallJoinModel", "isBetter", "(IIIII)Z"⟩, 24), (⟨"CallJoinModel", "newEvent", "()I"⟩, 24)]
theorem lw_r2 : ∀ q ∈ lw_privs_2, lw_okq q := List.forall_mem_cons.mpr ⟨lw_p16, List.forall_mem_cons.mpr ⟨lw_p17, List.forall_mem_cons.mpr ⟨lw_p18, List.forall_mem_cons.mpr ⟨lw_p19, List.forall_mem_cons.mpr ⟨lw_p20, List.forall_mem_cons.mpr ⟨lw_p21, List.forall_mem_cons.mpr ⟨lw_p22, List.forall_mem_cons.mpr ⟨lw_p23, List.forall_mem_cons.mpr ⟨lw_p24, List.forall_mem_cons.mpr ⟨lw_p25, List.forall_mem_cons.mpr ⟨lw_p26, List.forall_mem_cons.mpr ⟨lw_p27, List.forall_mem_cons.mpr ⟨lw_p28, List.forall_mem_cons.mpr ⟨lw_p29, List.forall_mem_cons.mpr ⟨lw_p30, List.forall_mem_cons.mpr ⟨lw_p31, fun _ h => absurd h List.not_mem_nil⟩⟩⟩⟩⟩⟩⟩⟩⟩⟩⟩⟩⟩⟩⟩⟩
theorem lw_p32 : lw_okq (⟨"CallJoinModel", "isCall", "(I)Z"⟩, 24) := ⟨⟨by decide +kernel, by decide +kernel⟩, List.mem_of_getElem? (i := 598) (by decide +kernel), List.mem_of_getElem? (i := 790) (by decide +kernel), List.mem_of_getElem? (i := 791) (by decide +kernel)⟩
theorem lw_p33 : lw_okq (⟨"CallJoinModel", "isEvent", "(I)Z"⟩, 24) := ⟨⟨by decide +kernel, by decide +kernel⟩, List.mem_of_getElem? (i := 598) (by decide +kernel), List.mem_of_getElem? (i := 802) (by decide +kernel), List.mem_of_getElem? (i := 803) (by decide +kernel)⟩
theorem lw_p34 : lw_okq (⟨"CallJoinModel", "size", "(I)I"⟩, 24) := ⟨⟨by decide +kernel, by decide +kernel⟩, List.mem_of_getElem? (i := 598) (by decide +kernel), List.mem_of_getElem? (i := 806) (by decide +kernel), List.mem_of_getElem? (i := 807) (by decide +kernel)⟩
theorem lw_p35 : lw_okq (⟨"CallJoinModel", "weightOf", "(I)I"⟩, 24) := ⟨⟨by decide +kernel, by decide +kernel⟩, List.mem_of_getElem? (i := 598) (by decide +kernel), List.mem_of_getElem? (i := 834) (by decide +kernel), List.mem_of_getElem? (i := 835) (by decide +kernel)⟩
theorem lw_p36 : lw_okq (⟨"CallJoinModel", "placeOf", "(I)I"⟩, 24) := ⟨⟨by decide +kernel, by decide +kernel⟩, List.mem_of_getElem? (i := 598) (by decide +kernel), List.mem_of_getElem? (i := 838) (by decide +kernel), List.mem_of_getElem? (i := 839) (by decide +kernel)⟩
theorem lw_p37 : lw_okq (⟨"CallJoinModel", "latestOf", "(I)I"⟩, 24) := ⟨⟨by decide +kernel, by decide +kernel⟩, List.mem_of_getElem? (i := 598) (by decide +kernel), List.mem_of_getElem? (i := 842) (by decide +kernel), List.mem_of_getElem? (i := 843) (by decide +kernel)⟩
def lw_privs_3 : List (MethodName × Nat) := [(⟨"CallJoinModel", "isCall", "(I)Z"⟩, 24), (⟨"CallJoinModel", "isEvent", "(I)Z"⟩, 24), (⟨"CallJoinModel", "size", "(I)I"⟩, 24), (⟨"CallJoinModel", "weightOf", "(I)I"⟩, 24), (⟨"CallJoinModel", "placeOf", "(I)I"⟩, 24), (⟨"CallJoinModel", "latestOf", "(I)I"⟩, 24)]
theorem lw_r3 : ∀ q ∈ lw_privs_3, lw_okq q := List.forall_mem_cons.mpr ⟨lw_p32, List.forall_mem_cons.mpr ⟨lw_p33, List.forall_mem_cons.mpr ⟨lw_p34, List.forall_mem_cons.mpr ⟨lw_p35, List.forall_mem_cons.mpr ⟨lw_p36, List.forall_mem_cons.mpr ⟨lw_p37, fun _ h => absurd h List.not_mem_nil⟩⟩⟩⟩⟩⟩
def lw_privs : List (MethodName × Nat) := lw_privs_1 ++ (lw_privs_2 ++ (lw_privs_3))
def lw_tbl : List Cond := k2_sels lw_privs ++ tables_1
theorem lw_privs_ok : ∀ q ∈ lw_privs, lw_okq q := by
  show ∀ q ∈ lw_privs_1 ++ (lw_privs_2 ++ (lw_privs_3)), lw_okq q
  exact List.forall_mem_append.mpr ⟨lw_r1, List.forall_mem_append.mpr ⟨lw_r2, lw_r3⟩⟩
end
section
theorem goodIn_r {big : List Cond} (ws : List Cond) (ps : List Nat) (hp : ws = ps.filterMap (fun i => big[i]?)) (h : ws.all goodWord = true) : GoodIn big ws := by
  intro w hw
  have h1 := List.all_eq_true.mp h w hw
  rw [hp] at hw
  obtain ⟨i, -, hi⟩ := List.mem_filterMap.mp hw
  have hm : w ∈ big := by first | exact List.mem_of_getElem? hi | exact List.getElem?_mem hi
  exact ⟨hm, good_of_word h1⟩
theorem goodIn_app {big a b : List Cond} (ha : GoodIn big a) (hb : GoodIn big b) : GoodIn big (a ++ b) := fun w h => (List.mem_append.mp h).elim (ha w) (hb w)
theorem goodIn_ca {big a b : List Cond} {c : Cond} (ha : GoodIn big (c :: a)) (hb : GoodIn big b) : GoodIn big (c :: (a ++ b)) := fun w h => (List.mem_cons.mp h).elim (fun e => ha w (List.mem_cons.mpr (Or.inl e))) (fun h => (List.mem_append.mp h).elim (fun h => ha w (List.mem_cons.mpr (Or.inr h))) (hb w))
theorem goodIn_sub {big ws : List Cond} (hm : ∀ w ∈ ws, w ∈ big) (h : ws.all goodWord = true) : GoodIn big ws := fun w hw => ⟨hm w hw, good_of_word (List.all_eq_true.mp h w hw)⟩

section VXA
def vx_T (XC : String → State → State → Prop) (st : State) (q : Addr) (t : State) (mc ms : Nat) (free : Addr → Prop) : Prop :=
  ∃ (E : String) (ce : Cell) (L : List Loc), XC E st t ∧ t.heap[q]? = some ce ∧ ce.vm = .none ∧ st.vm.findClass E = some ce.cls ∧ st.WarmedH t.vm ∧ st.sameButNew ({ t with vm := st.vm } : State) L mc ms ∧ ∀ z ∈ L, free z.base
def vx_Q (Qc : Array Value → State → Outcome → State → Prop) (XC : String → State → State → Prop) (mc ms : Nat) (free : Addr → Prop) : Array Value → State → Outcome → State → Prop := fun a st o t =>
  (Qc a st o t ∧ ∃ L, FrameEnd st o t L mc ms ∧ ∀ q ∈ L, free q.base) ∨ ∃ q, o = .threw q ∧ vx_T XC st q t mc ms free
def vx_Met (l : Launch) (y : MethodName) (ws : List Cond) (rm : Room) (Pc : Array Value → State → Prop) (Qc : Array Value → State → Outcome → State → Prop) (XC : String → State → State → Prop) (mc ms : Nat) (free : Addr → Prop) : Prop :=
  MetFree l y (headSpec ws rm) Pc (fun _ _ _ _ _ => True) (vx_Q Qc XC mc ms free)
def vx_Post (XC : String → State → State → Prop) (mc ms : Nat) (free : Addr → Prop) : Pt → Array Value → Addr → Pt → Prop := fun A a q B =>
  ∃ (g : JFrame) (mk : MethodId) (t : State) (L : List Loc) (E : String) (ce : Cell), B.U.heap = t.heap ∧ B.U.vm = t.vm ∧ XC E (A.U.calling g mk a) t ∧ t.heap[q]? = some ce ∧ ce.vm = .none ∧ A.U.vm.findClass E = some ce.cls ∧ B.locs = A.locs ++ L ∧ (∀ z ∈ L, free z.base) ∧ B.cells = A.cells + mc ∧ B.slots = A.slots + ms
def vx_Back (l : Launch) (R : Room) (p : Program) (e : Env) (below : List Frame) (s : State) (sargs : Array Value) (y : MethodName) (len W9 : Nat)
    (Pre : Pt → Array Value → Prop) (Post : Pt → Array Value → Option Value → Pt → Prop) (PostX : Pt → Array Value → Addr → Pt → Prop) : Prop :=
  ∀ (m : MethodId) (meth : Method) (c : Code) (A : Pt) (g : JFrame) (ig : Instr) (mk : MethodId) (a : Array Value),
    Stand p l e R s m sargs below meth c A.U A.locs A.cells A.slots → g.method = m → g.locals.size = c.maxLocals → decode c.code g.pc = .ok (ig, len) →
    2 * g.monitorRoom + (g.stack.map fun v => v.category).sum ≤ W9 → A.U.methodNamed? y = some mk → Pre A a →
    (∃ (v : Option Value) (B : Pt), Stand p l e R s m sargs below meth c B.U B.locs B.cells B.slots ∧ Post A a v B ∧
      Steps p.tables e below (doInvoke e (A.U.setTop g) [] mk a).1 (B.U.setTop { g with pc := g.pc + len, stack := v.toList ++ g.stack })) ∨
    (∃ (q : Addr) (B : Pt), Stand p l e R s m sargs below meth c B.U B.locs B.cells B.slots ∧ PostX A a q B ∧
      Steps p.tables e below (doInvoke e (A.U.setTop g) [] mk a).1 ((B.U.setTop g).pushFrame (.throwing q)))
section Payer
variable {l : Launch} {R : Room} {p : Program} {e : Env} {below : List Frame} {s : State} {sargs : Array Value} {y : MethodName} {len W9 : Nat}
theorem vx_back {ws : List Cond} {rm : Room} {Pc : Array Value → State → Prop} {Qc : Array Value → State → Outcome → State → Prop} {XC : String → State → State → Prop} {mc ms : Nat} {free : Addr → Prop} {bytes : ByteArray} {maxL : Nat} {ret : Option FieldType}
    (hM : vx_Met l y ws rm Pc Qc XC mc ms free) (hblind : FrameBlind Pc) (hrc : rm.cells = mc) (hrs : rm.slots = ms)
    (hframes : rm.frames + 1 ≤ R.frames) (hlocals : W9 + (maxL + 11) + rm.locals ≤ R.locals)
    (hws : ∀ w ∈ ws, ∀ a' U, s.WarmedH U.vm → w.before a' U = true) (hcode : Cond.code y bytes maxL ret ∈ ws) (hinit : ∀ a' U, s.WarmedH U.vm → (Cond.initialized y.cls).before a' U = true) :
    vx_Back l R p e below s sargs y len W9 (PreOf R mc ms Pc) (PostOf Qc mc ms free) (vx_Post XC mc ms free) := by
  intro m meth c A g ig mk a X hg hsize hdg hW hn hp
  have h1 : (headSpec ws rm).pre.before a A.U = true := atoms_intro fun w hw => hws w hw _ _ X.warmed
  have h2 : (Cond.code y bytes maxL ret).before a A.U = true := hws _ hcode _ _ X.warmed
  have h3 : (Cond.initialized y.cls).before a A.U = true := hinit _ _ X.warmed
  have h4 : A.cells + (headSpec ws rm).room.cells ≤ R.cells := by rw [show (headSpec ws rm).room.cells = mc from hrc]; exact hp.1
  have h5 : A.slots + (headSpec ws rm).room.slots ≤ R.slots := by rw [show (headSpec ws rm).room.slots = ms from hrs]; exact hp.2.1
  have hPc : Pc a (A.U.calling g mk a) := hblind _ _ _ _ hp.2.2
  obtain ⟨U, Ls, c0, s0⟩ := A
  dsimp only [Pt.U, Pt.locs, Pt.cells, Pt.slots] at h1 h2 h3 h4 h5 X hn hPc ⊢
  obtain ⟨methY, cY, hmY, hcY, -, hlY, -, -, -, -⟩ := Cond.code_spec hn h2
  obtain ⟨kY, hkY, -⟩ := className_of_methodNamed hn
  have hinitY : kY.init = .initialized := Cond.initialized_spec (findClass_of_methodNamed hn) hkY h3
  have h : At U g.method c below := by rw [hg]; exact X.here
  have hlocals9 : W9 + (maxL + 11) + (headSpec ws rm).room.locals ≤ R.locals := hlocals
  have happ : (headSpec ws rm).appliesLoose y e.platform (U.calling g mk a) = true :=
    Spec.appliesLoose_calling (g := g) h hdg hn hkY hinitY
      (X.room_calling (g := g) (R' := (headSpec ws rm).room) hsize hmY hcY hframes (by rw [hlY]; omega) h4 h5) h1
  obtain ⟨mid, hmid⟩ := h.above
  have hfr : (U.setTop g).frames = (.java g :: mid) ++ below := by rw [State.frames_setTop' g h.top, hmid]; rfl
  obtain ⟨o, s₂, hsteps, -, hend, hq⟩ := Steps.callFree hM p X.admits X.cas X.clock (acts := []) hfr happ hPc trivial
  have hq' : vx_Q Qc XC mc ms free a (U.calling g mk a) o s₂ := hq
  rw [State.frames_setTop' g h.top] at hend
  obtain ⟨g₀, hg0⟩ := Option.isSome_iff_exists.mp h.top
  obtain ⟨r, hr⟩ := State.topJava?_eq_some.mp hg0
  have hr' : (({ U with heap := s₂.heap, slotsUsed := s₂.slotsUsed } : State).setVm s₂.vm).frames = .java g₀ :: r := hr
  rcases hq' with ⟨hqc, L, hfe, hL⟩ | ⟨q, rfl, E, ce, L, hx, hce, hcv, hcl, hW₂, hsm, hL⟩
  · obtain ⟨⟨v, rfl⟩, hW₂, e2, q2, q3, q4, q5, q6⟩ := id hfe
    have e3 : s₂ = ({ (U.calling g mk a).setFrames s₂.frames with heap := s₂.heap, slotsUsed := s₂.slotsUsed } : State).setVm s₂.vm := by
      have : s₂ = ({ s₂ with vm := (U.calling g mk a).vm } : State).setVm s₂.vm := rfl
      rw [e2] at this
      exact this
    obtain ⟨c₂, i₂, len₂, hc₂, hd₂, hf₂⟩ := hend
    have hW' : U.WarmedH s₂.vm := hW₂
    have hcc : c₂ = c := by
      have h1 : s₂.code? g.method = U.code? g.method := by
        rw [State.code?_eq, State.code?_eq, hW'.alike.method?]
      exact Option.some.inj (hc₂.symm.trans (h1.trans h.code))
    subst hcc
    have hlen : len₂ = len := by rw [hdg] at hd₂; cases hd₂; rfl
    subst hlen
    have hs₂ : s₂ = (({ U with heap := s₂.heap, slotsUsed := s₂.slotsUsed } : State).setVm s₂.vm).setTop { g with pc := g.pc + len₂, stack := v.toList ++ g.stack } := by
      refine e3.trans ?_
      rw [hf₂, State.calling_eq h.top, State.setFrames_setFrames, State.setTop_of_frames _ hr', hr]
      rfl
    have hsame : U.sameButNew ({ U with heap := s₂.heap, slotsUsed := s₂.slotsUsed } : State) L mc ms := by
      refine ⟨?_, q2, q3, q4, q5, q6⟩
      obtain ⟨t, ht, -⟩ := State.frames_cons hr
      show ({ U with heap := s₂.heap, slotsUsed := s₂.slotsUsed } : State) = { U.setFrames U.frames with heap := s₂.heap, slotsUsed := s₂.slotsUsed }
      rw [State.setFrames_self ht]
    subst hg
    refine Or.inl ⟨v, ⟨(({ U with heap := s₂.heap, slotsUsed := s₂.slotsUsed } : State).setVm s₂.vm), Ls ++ L, c0 + mc, s0 + ms⟩,
      ⟨X.admits, X.cas, X.clock, X.frames, X.room, X.hears, X.method, X.code, (X.here.setHeapUsed s₂.heap s₂.slotsUsed).setVm hW'.alike, X.tail, State.WarmedH.trans X.warmed hW', X.limits, X.bytes, X.same.trans (hsame.setVm s.vm)⟩,
      ⟨g, mk, s₂, L, rfl, rfl, hqc, rfl, hL, rfl, rfl⟩, ?_⟩
    show Steps p.tables e below _ ((({ U with heap := s₂.heap, slotsUsed := s₂.slotsUsed } : State).setVm s₂.vm).setTop { g with pc := g.pc + len₂, stack := v.toList ++ g.stack })
    rw [← hs₂]
    exact hsteps
  · obtain ⟨e2, q2, q3, q4, q5, q6⟩ := id hsm
    have e3 : s₂ = ({ (U.calling g mk a).setFrames s₂.frames with heap := s₂.heap, slotsUsed := s₂.slotsUsed } : State).setVm s₂.vm := by
      have : s₂ = ({ s₂ with vm := (U.calling g mk a).vm } : State).setVm s₂.vm := rfl
      rw [e2] at this
      exact this
    have hf₂ : s₂.frames = .throwing q :: .java g :: U.frames.tail := hend
    have hW' : U.WarmedH s₂.vm := hW₂
    have hs₂ : s₂ = ((({ U with heap := s₂.heap, slotsUsed := s₂.slotsUsed } : State).setVm s₂.vm).setTop g).pushFrame (.throwing q) := by
      refine e3.trans ?_
      rw [hf₂, State.calling_eq h.top, State.setFrames_setFrames, State.pushFrame, State.frames_setTop _ hr', State.setTop_of_frames _ hr', State.setFrames_setFrames, hr]
      rfl
    have hsame : U.sameButNew ({ U with heap := s₂.heap, slotsUsed := s₂.slotsUsed } : State) L mc ms := by
      refine ⟨?_, q2, q3, q4, q5, q6⟩
      obtain ⟨t, ht, -⟩ := State.frames_cons hr
      show ({ U with heap := s₂.heap, slotsUsed := s₂.slotsUsed } : State) = { U.setFrames U.frames with heap := s₂.heap, slotsUsed := s₂.slotsUsed }
      rw [State.setFrames_self ht]
    subst hg
    refine Or.inr ⟨q, ⟨(({ U with heap := s₂.heap, slotsUsed := s₂.slotsUsed } : State).setVm s₂.vm), Ls ++ L, c0 + mc, s0 + ms⟩,
      ⟨X.admits, X.cas, X.clock, X.frames, X.room, X.hears, X.method, X.code, (X.here.setHeapUsed s₂.heap s₂.slotsUsed).setVm hW'.alike, X.tail, State.WarmedH.trans X.warmed hW', X.limits, X.bytes, X.same.trans (hsame.setVm s.vm)⟩,
      ⟨g, mk, s₂, L, E, ce, rfl, rfl, hx, hce, hcv, hcl, rfl, hL, rfl, rfl⟩, ?_⟩
    show Steps p.tables e below _ (((({ U with heap := s₂.heap, slotsUsed := s₂.slotsUsed } : State).setVm s₂.vm).setTop g).pushFrame (.throwing q))
    rw [← hs₂]
    exact hsteps
end Payer
section Calls
variable {p : Program} {l : Launch} {e : Env} {R : Room} {s : State} {m : MethodId} {args : Array Value} {below : List Frame} {meth : Method} {c : Code} {T : State} {locs : List Loc} {cells slots : Nat}
theorem vx_callV (X : Stand p l e R s m args below meth c T locs cells slots) (hexec : p.tables.exec = Jvm.exec) {own C : String} {index : Nat} {y : MethodName} {bytes : ByteArray} {maxL : Nat} {ret : Option FieldType}
    (hown : s.vm.findClass own = some m.cls) (hlink : (Cond.methodLink own index y).before args s = true) (hinst : (Cond.instanceMethod y).before args s = true) (hsel : (Cond.selects C y y).before args s = true)
    (hcode : (Cond.code y bytes maxL ret).before args s = true) (hy : y.cls ≠ "java/lang/invoke/MethodHandle" ∧ y.cls ≠ "java/lang/invoke/VarHandle")
    {W9 : Nat} {Pre : Pt → Array Value → Prop} {Post : Pt → Array Value → Option Value → Pt → Prop} {PostX : Pt → Array Value → Addr → Pt → Prop} (hK : vx_Back l R p e below s args y 3 W9 Pre Post PostX)
    {b : Addr} {cellB : Cell} (hcell : T.heap[b]? = some cellB) (hobj : cellB.vm.isStatics = false) (hcls : s.vm.findClass C = some cellB.cls)
    {g : JFrame} (hg : g.method = m) (hsize : g.locals.size = c.maxLocals) {argsL rest : List Value} (hlen : ∀ sig, parseMethodDescriptor y.desc = some sig → argsL.length = sig.parameters.length)
    (hstack : g.stack = argsL.reverse ++ .ref b :: rest) (hW : 2 * g.monitorRoom + (rest.map fun v => v.category).sum ≤ W9) (hdg : decode c.code g.pc = .ok (.invokevirtual index, 3))
    (hpre : ∀ vm₁, s.WarmedH vm₁ → Pre ⟨T.setVm vm₁, locs, cells, slots⟩ (Value.ref b :: argsL).toArray) :
    (∃ (v : Option Value) (vm₁ : Vm) (B : Pt), s.WarmedH vm₁ ∧ Stand p l e R s m args below meth c B.U B.locs B.cells B.slots ∧ Post ⟨T.setVm vm₁, locs, cells, slots⟩ (Value.ref b :: argsL).toArray v B ∧
      ∀ target, Steps p.tables e below (B.U.setTop { g with pc := g.pc + 3, stack := v.toList ++ rest }) target → Steps p.tables e below (T.setTop g) target) ∨
    (∃ (q : Addr) (vm₁ : Vm) (B : Pt), s.WarmedH vm₁ ∧ Stand p l e R s m args below meth c B.U B.locs B.cells B.slots ∧ PostX ⟨T.setVm vm₁, locs, cells, slots⟩ (Value.ref b :: argsL).toArray q B ∧
      Steps p.tables e below (T.setTop g) ((B.U.setTop { g with stack := rest }).pushFrame (.throwing q))) := by
  obtain ⟨mk, methM, hnamed, hmethM, hstM, habM⟩ := Cond.instanceMethod_spec hinst
  obtain ⟨methM', cM, hmethM', -, -, -, -, -, -, hsigM⟩ := Cond.code_spec hnamed hcode
  cases hmethM.symm.trans hmethM'
  obtain ⟨c2, r2, m2, q1, q2, q3, q4, kP, hkP, hkPi⟩ := Cond.selects_spec hsel
  cases hcls.symm.trans q1
  cases (State.methodFound?_of_named hnamed hy).symm.trans q2
  cases hnamed.symm.trans q3
  have hselP : selectMethod e.platform s.vm cellB.cls mk = .method mk := by rw [Launch.admits_selectMethod X.admits]; exact q4
  obtain ⟨vm₁, X₁, hstep₁⟩ := X.invokevirtual hexec hown hlink hnamed hmethM hstM hkP hkPi hy (a := b) (cell := cellB) hcell
    (fun z h => by rw [h] at hobj; cases hobj) hselP hmethM habM hkP hkPi (g := g) hg (argsL := argsL) (rest := rest) (hlen _ hsigM) hstack hdg
  rcases hK m meth c ⟨T.setVm vm₁, locs, cells, slots⟩ { g with stack := rest } (.invokevirtual index) mk (Value.ref b :: argsL).toArray X₁ hg hsize hdg hW (X₁.named hnamed) (hpre vm₁ X₁.warmed) with ⟨v, B, X', hpost, hsteps⟩ | ⟨q, B, X', hpost, hsteps⟩
  · exact Or.inl ⟨v, vm₁, B, X₁.warmed, X', hpost, fun target h => hstep₁ _ fun acts => by rw [doInvoke_state]; exact hsteps.trans h⟩
  · exact Or.inr ⟨q, vm₁, B, X₁.warmed, X', hpost, hstep₁ _ fun acts => by rw [doInvoke_state]; exact hsteps⟩
theorem vx_callS (X : Stand p l e R s m args below meth c T locs cells slots) (hexec : p.tables.exec = Jvm.exec) {own : String} {index : Nat} {y : MethodName} {bytes : ByteArray} {maxL : Nat} {ret : Option FieldType}
    (hown : s.vm.findClass own = some m.cls) (hlink : (Cond.methodLink own index y).before args s = true) (hstat : (Cond.static y).before args s = true) (hinit : (Cond.initialized y.cls).before args s = true)
    (hcode : (Cond.code y bytes maxL ret).before args s = true) (hy : y.cls ≠ "java/lang/invoke/MethodHandle" ∧ y.cls ≠ "java/lang/invoke/VarHandle")
    {W9 : Nat} {Pre : Pt → Array Value → Prop} {Post : Pt → Array Value → Option Value → Pt → Prop} {PostX : Pt → Array Value → Addr → Pt → Prop} (hK : vx_Back l R p e below s args y 3 W9 Pre Post PostX)
    {g : JFrame} (hg : g.method = m) (hsize : g.locals.size = c.maxLocals) {argsL rest : List Value} (hlen : ∀ sig, parseMethodDescriptor y.desc = some sig → argsL.length = sig.parameters.length)
    (hstack : g.stack = argsL.reverse ++ rest) (hW : 2 * g.monitorRoom + (rest.map fun v => v.category).sum ≤ W9) (hdg : decode c.code g.pc = .ok (.invokestatic index, 3))
    (hpre : ∀ vm₁, s.WarmedH vm₁ → Pre ⟨T.setVm vm₁, locs, cells, slots⟩ argsL.toArray) :
    (∃ (v : Option Value) (vm₁ : Vm) (B : Pt), s.WarmedH vm₁ ∧ Stand p l e R s m args below meth c B.U B.locs B.cells B.slots ∧ Post ⟨T.setVm vm₁, locs, cells, slots⟩ argsL.toArray v B ∧
      ∀ target, Steps p.tables e below (B.U.setTop { g with pc := g.pc + 3, stack := v.toList ++ rest }) target → Steps p.tables e below (T.setTop g) target) ∨
    (∃ (q : Addr) (vm₁ : Vm) (B : Pt), s.WarmedH vm₁ ∧ Stand p l e R s m args below meth c B.U B.locs B.cells B.slots ∧ PostX ⟨T.setVm vm₁, locs, cells, slots⟩ argsL.toArray q B ∧
      Steps p.tables e below (T.setTop g) ((B.U.setTop { g with stack := rest }).pushFrame (.throwing q))) := by
  obtain ⟨mk, hnamed⟩ := Cond.code_named hcode
  obtain ⟨methM, cM, hmethM, -, -, -, -, -, -, hsigM⟩ := Cond.code_spec hnamed hcode
  have hstatic : methM.isStatic = true := Cond.static_spec hnamed hmethM hstat
  obtain ⟨kP, hkP, -⟩ := className_of_methodNamed hnamed
  have hinitP : kP.init = .initialized := Cond.initialized_spec (findClass_of_methodNamed hnamed) hkP hinit
  obtain ⟨vm₁, X₁, hstep₁⟩ := X.invokestatic hexec hown hlink hnamed hmethM hstatic hkP hinitP hy (g := g) hg (argsL := argsL) (rest := rest) (hlen _ hsigM) hstack hdg
  rcases hK m meth c ⟨T.setVm vm₁, locs, cells, slots⟩ { g with stack := rest } (.invokestatic index) mk argsL.toArray X₁ hg hsize hdg hW (X₁.named hnamed) (hpre vm₁ X₁.warmed) with ⟨v, B, X', hpost, hsteps⟩ | ⟨q, B, X', hpost, hsteps⟩
  · exact Or.inl ⟨v, vm₁, B, X₁.warmed, X', hpost, fun target h => hstep₁ _ fun acts => by rw [doInvoke_state]; exact hsteps.trans h⟩
  · exact Or.inr ⟨q, vm₁, B, X₁.warmed, X', hpost, hstep₁ _ fun acts => by rw [doInvoke_state]; exact hsteps⟩
end Calls
theorem vx_cls {s : State} {T : State} {vm₁ : Vm} {E : String} {k : ClassId} (hW : s.WarmedH vm₁) (h : (T.setVm vm₁).vm.findClass E = some k) : s.vm.findClass E = some k := by
  have h1 : vm₁.findClass E = some k := h
  rw [hW.alike.findClass] at h1
  exact h1
def vx_W (p : Program) (l : Launch) (e : Env) (R : Room) (s : State) (m : MethodId) (args : Array Value) (below : List Frame) (meth : Method) (c : Code) (H : Heap) (locs : List Loc) (cells slots : Nat) (Q : State → Prop) (g : JFrame) (q : Addr) : Prop :=
  ∀ T : State, T.heap = H → Stand p l e R s m args below meth c T locs cells slots → ∃ t, Steps p.tables e below ((T.setTop g).pushFrame (.throwing q)) t ∧ Q t
def vx_Run (p : Program) (l : Launch) (e : Env) (R : Room) (s : State) (m : MethodId) (args : Array Value) (below : List Frame) (meth : Method) (c : Code) (H : Heap) (locs : List Loc) (cells slots mc ms : Nat) (g : JFrame) (rest : List Value) (Qa : State → Outcome → State → Prop) (XC : String → State → State → Prop) (free : Addr → Prop) : Prop :=
  ∀ T : State, T.heap = H → Stand p l e R s m args below meth c T locs cells slots →
    (∃ (v : Option Value) (st₀ t T' : State) (L : List Loc), st₀.heap = H ∧ Stand p l e R s m args below meth c T' (locs ++ L) (cells + mc) (slots + ms) ∧ (∀ q ∈ L, free q.base) ∧ T'.heap = t.heap ∧ T'.vm = t.vm ∧ Qa st₀ (.returned v) t ∧
      Goes p e below T g T' { g with pc := g.pc + 3, stack := v.toList ++ rest }) ∨
    (∃ (q : Addr) (st₀ t T' : State) (L : List Loc) (E : String) (ce : Cell), st₀.heap = H ∧ Stand p l e R s m args below meth c T' (locs ++ L) (cells + mc) (slots + ms) ∧ (∀ z ∈ L, free z.base) ∧ T'.heap = t.heap ∧ T'.vm = t.vm ∧ XC E st₀ t ∧ t.heap[q]? = some ce ∧ ce.vm = .none ∧ s.vm.findClass E = some ce.cls ∧
      Steps p.tables e below (T.setTop g) ((T'.setTop { g with stack := rest }).pushFrame (.throwing q)))
def vx_X {S : Type} (px : S → Prop) (B : String → S → State → Prop) (A : Nat → Prop) : String → State → State → Prop := fun E st t => ∃ u : S, px u ∧ B E u t ∧ va_F A st t
section Runs
variable {p : Program} {l : Launch} {e : Env} {R : Room} {s : State} {m : MethodId} {args : Array Value} {below : List Frame} {meth : Method} {c : Code} {H : Heap} {locs : List Loc} {cells slots : Nat}
variable {y : MethodName} {bytes cc : ByteArray} {maxL nL mc ms n index : Nat} {ret : Option FieldType} {ws : List Cond} {rm : Room} {Pc : Array Value → State → Prop} {Qc : Array Value → State → Outcome → State → Prop} {XC : String → State → State → Prop} {free : Addr → Prop} {Ts : List Cond} {own C : String} {b : Addr} {As rest : List Value} {g : JFrame}
theorem vx_callBack (cb : CallB R s args own index y bytes maxL ret ws rm mc ms n) (hM : vx_Met l y ws rm Pc Qc XC mc ms free) (hbl : FrameBlind Pc) : vx_Back l R p e below s args y 3 8 (PreOf R mc ms Pc) (PostOf Qc mc ms free) (vx_Post XC mc ms free) := by
  obtain ⟨hrc, hrs, hfr, hlo, hws, hcw, -, hini, -⟩ := cb
  exact vx_back (bytes := bytes) (maxL := maxL) (ret := ret) hM hbl hrc hrs hfr hlo hws hcw (fun a' U hW => word_at hW (Or.inl (by first | rfl | simp [Cond.onTables, Cond.keeps, Cond.steady])) hini)
theorem vx_runV (S : CallFix p m c cc nL s args Ts own) (hM : vx_Met l y ws rm Pc Qc XC mc ms free) (cw : CallW R s args own C index y bytes maxL ret ws rm mc ms n) (hp : PreV s H C b Pc As)
    (hg : g.method = m) (hn : As.length = n) (hsize : g.locals.size = nL) (hstack : g.stack = As.reverse ++ .ref b :: rest) (hW : 2 * g.monitorRoom + (rest.map fun v => v.category).sum ≤ 8) (hdg : decode cc g.pc = .ok (.invokevirtual index, 3)) (hf : cells + mc ≤ R.cells ∧ slots + ms ≤ R.slots) :
    vx_Run p l e R s m args below meth c H locs cells slots mc ms g rest (Qc (Value.ref b :: As).toArray) XC free := by
  have hK : vx_Back l R p e below s args y 3 8 (PreOf R mc ms Pc) (PostOf Qc mc ms free) (vx_Post XC mc ms free) := vx_callBack cw.1 hM hp.1
  obtain ⟨⟨-, -, -, -, -, -, hcode, -, hy, hlen, hl⟩, hin, hse⟩ := cw
  obtain ⟨hx, hb, hml, ho, -⟩ := S
  obtain ⟨-, ⟨cellB, hcB, hoB, hclB⟩, hPc⟩ := hp
  intro T hT X
  rcases vx_callV X hx (C := C) (bytes := bytes) (maxL := maxL) (ret := ret) ho hl hin hse hcode hy hK (by rw [hT]; exact hcB) hoB hclB hg (hsize.trans hml.symm) (argsL := As) (rest := rest) (fun sig h => hn.trans (hlen sig h)) hstack hW (by rw [hb]; exact hdg)
    (fun vm₁ hW₁ => ⟨hf.1, hf.2, hPc (T.setVm vm₁) hT hW₁⟩) with ⟨v, vm₁, ⟨U', l2, c2, s2⟩, hW₁, X', ⟨g', mk, t, L, e1, e2, hq, h1, hL, h2, h3⟩, st⟩ | ⟨q, vm₁, ⟨U', l2, c2, s2⟩, hW₁, X', ⟨g', mk, t, L, E, ce, e1, e2, hq, hce, hcv, hcl, h1, hL, h2, h3⟩, st⟩
  · dsimp only [Pt.U, Pt.locs, Pt.cells, Pt.slots] at X' e1 e2 h1 h2 h3 st
    subst h1; subst h2; subst h3
    exact Or.inl ⟨v, (T.setVm vm₁).calling g' mk (Value.ref b :: As).toArray, t, U', L, hT, X', hL, e1, e2, hq, st⟩
  · dsimp only [Pt.U, Pt.locs, Pt.cells, Pt.slots] at X' e1 e2 h1 h2 h3 st hcl
    subst h1; subst h2; subst h3
    exact Or.inr ⟨q, (T.setVm vm₁).calling g' mk (Value.ref b :: As).toArray, t, U', L, E, ce, hT, X', hL, e1, e2, hq, hce, hcv, vx_cls hW₁ hcl, st⟩
theorem vx_runS (S : CallFix p m c cc nL s args Ts own) (hM : vx_Met l y ws rm Pc Qc XC mc ms free) (cw : CallB R s args own index y bytes maxL ret ws rm mc ms n ∧ (Cond.static y).before args s = true) (hp : PreS s H Pc As)
    (hg : g.method = m) (hn : As.length = n) (hsize : g.locals.size = nL) (hstack : g.stack = As.reverse ++ rest) (hW : 2 * g.monitorRoom + (rest.map fun v => v.category).sum ≤ 8) (hdg : decode cc g.pc = .ok (.invokestatic index, 3)) (hf : cells + mc ≤ R.cells ∧ slots + ms ≤ R.slots) :
    vx_Run p l e R s m args below meth c H locs cells slots mc ms g rest (Qc As.toArray) XC free := by
  have hK : vx_Back l R p e below s args y 3 8 (PreOf R mc ms Pc) (PostOf Qc mc ms free) (vx_Post XC mc ms free) := vx_callBack cw.1 hM hp.1
  obtain ⟨⟨-, -, -, -, -, -, hcode, hini, hy, hlen, hl⟩, hstt⟩ := cw
  obtain ⟨hx, hb, hml, ho, -⟩ := S
  intro T hT X
  rcases vx_callS X hx (bytes := bytes) (maxL := maxL) (ret := ret) ho hl hstt hini hcode hy hK hg (hsize.trans hml.symm) (argsL := As) (rest := rest) (fun sig h => hn.trans (hlen sig h)) hstack hW (by rw [hb]; exact hdg)
    (fun vm₁ hW₁ => ⟨hf.1, hf.2, hp.2 (T.setVm vm₁) hT hW₁⟩) with ⟨v, vm₁, ⟨U', l2, c2, s2⟩, hW₁, X', ⟨g', mk, t, L, e1, e2, hq, h1, hL, h2, h3⟩, st⟩ | ⟨q, vm₁, ⟨U', l2, c2, s2⟩, hW₁, X', ⟨g', mk, t, L, E, ce, e1, e2, hq, hce, hcv, hcl, h1, hL, h2, h3⟩, st⟩
  · dsimp only [Pt.U, Pt.locs, Pt.cells, Pt.slots] at X' e1 e2 h1 h2 h3 st
    subst h1; subst h2; subst h3
    exact Or.inl ⟨v, (T.setVm vm₁).calling g' mk As.toArray, t, U', L, hT, X', hL, e1, e2, hq, st⟩
  · dsimp only [Pt.U, Pt.locs, Pt.cells, Pt.slots] at X' e1 e2 h1 h2 h3 st hcl
    subst h1; subst h2; subst h3
    exact Or.inr ⟨q, (T.setVm vm₁).calling g' mk As.toArray, t, U', L, E, ce, hT, X', hL, e1, e2, hq, hce, hcv, vx_cls hW₁ hcl, st⟩
end Runs
section Rows
variable {p : Program} {l : Launch} {e : Env} {R : Room} {s : State} {m : MethodId} {args : Array Value} {below : List Frame} {meth : Method} {c : Code} {H : Heap} {locs : List Loc} {cells slots : Nat} {Q : State → Prop}
variable {mc ms : Nat} {free : Addr → Prop} {A0 A1 : Nat → Prop} {H0 : Heap} {a : Array Value} {pc : Nat} {ls : Array Slot} {st0 rest : List Value}
theorem vx_keep {st₀ t T' : State} {L : List Loc} (h0 : st₀.heap = H) (e1 : T'.heap = t.heap) (hS : va_S A0 H0 H locs) (hA : ∀ q, q < H.size → A1 q → A0 q) (hf : ∀ q, free q → A0 q) (hL : ∀ q ∈ L, free q.base) (hF : va_F A1 st₀ t) :
    H.size ≤ T'.heap.size ∧ (∀ q : Nat, q < H.size → ¬ A1 q → T'.heap[q]? = H[q]?) ∧ va_S A0 H0 T'.heap (locs ++ L) := by
  obtain ⟨hz, hk⟩ := hF
  rw [h0] at hz hk
  exact ⟨by rw [e1]; exact hz, fun q h1 h2 => by rw [e1]; exact hk q h1 h2,
    ⟨Nat.le_trans hS.1 (by rw [e1]; exact hz), fun q h1 h2 => by rw [e1, hk q (Nat.lt_of_lt_of_le h1 hS.1) (fun z => h2 (hA q (Nat.lt_of_lt_of_le h1 hS.1) z))]; exact hS.2.1 q h1 h2, fun q hq => by
      rcases List.mem_append.mp hq with h | h
      · exact hS.2.2 q h
      · exact hf _ (hL q h)⟩⟩
theorem vx_calli {S SX : Type} {post : Int32 → S → Prop} {px : SX → Prop} {B : S → State → Prop} {BX : String → SX → State → Prop} {AX : Nat → Prop} (hr : vx_Run p l e R s m args below meth c H locs cells slots mc ms (F0 m pc ls st0) rest (va_Qi post B A1 a) (vx_X px BX AX) free) (hS : va_S A0 H0 H locs) (hA : ∀ q, q < H.size → A1 q → A0 q) (hf : ∀ q, free q → A0 q) (hAX : ∀ q, q < H.size → AX q → A0 q)
    (kx : ∀ (E : String) (ce : Cell) (q9 : Addr) (u : SX) (t : State) (H1 : Heap) (locs1 : List Loc), t.heap = H1 → s.vm.Alike t.vm → px u → BX E u t → H.size ≤ H1.size → (∀ q : Nat, q < H.size → ¬ AX q → H1[q]? = H[q]?) → va_S A0 H0 H1 locs1 → H1[q9]? = some ce → ce.vm = .none → s.vm.findClass E = some ce.cls → vx_W p l e R s m args below meth c H1 locs1 (cells + mc) (slots + ms) Q (F0 m pc ls rest) q9)
    (kk : ∀ (r : Int32) (u : S) (t : State) (H1 : Heap) (locs1 : List Loc), t.heap = H1 → s.vm.Alike t.vm → post r u → B u t → H.size ≤ H1.size → (∀ q : Nat, q < H.size → ¬ A1 q → H1[q]? = H[q]?) → va_S A0 H0 H1 locs1 → W p l e R s m args below meth c H1 locs1 (cells + mc) (slots + ms) Q (F0 m (pc + 3) ls (.int r :: rest))) : W p l e R s m args below meth c H locs cells slots Q (F0 m pc ls st0) := by
  intro T hT X
  rcases hr T hT X with ⟨v, st₀, t, T', L, h0, X', hL, e1, e2, ⟨⟨r, u, hv, hp, hb⟩, hF⟩, st⟩ | ⟨q, st₀, t, T', L, E, ce, h0, X', hL, e1, e2, ⟨u, hp, hb, hF⟩, hce, hcv, hcl, st⟩
  · cases hv
    obtain ⟨k1, k2, k3⟩ := vx_keep h0 e1 hS hA hf hL hF
    obtain ⟨t2, a1, b1⟩ := kk r u t T'.heap (locs ++ L) e1.symm (by rw [← e2]; exact X'.warmed.alike) hp hb k1 k2 k3 T' rfl X'
    exact ⟨t2, st t2 a1, b1⟩
  · obtain ⟨k1, k2, k3⟩ := vx_keep h0 e1 hS hAX hf hL hF
    obtain ⟨t2, a1, b1⟩ := kx E ce q u t T'.heap (locs ++ L) e1.symm (by rw [← e2]; exact X'.warmed.alike) hp hb k1 k2 k3 (by rw [e1]; exact hce) hcv hcl T' rfl X'
    exact ⟨t2, st.trans a1, b1⟩
theorem vx_calll {S SX : Type} {post : Int64 → S → Prop} {px : SX → Prop} {B : S → State → Prop} {BX : String → SX → State → Prop} {AX : Nat → Prop} (hr : vx_Run p l e R s m args below meth c H locs cells slots mc ms (F0 m pc ls st0) rest (va_Ql post B A1 a) (vx_X px BX AX) free) (hS : va_S A0 H0 H locs) (hA : ∀ q, q < H.size → A1 q → A0 q) (hf : ∀ q, free q → A0 q) (hAX : ∀ q, q < H.size → AX q → A0 q)
    (kx : ∀ (E : String) (ce : Cell) (q9 : Addr) (u : SX) (t : State) (H1 : Heap) (locs1 : List Loc), t.heap = H1 → s.vm.Alike t.vm → px u → BX E u t → H.size ≤ H1.size → (∀ q : Nat, q < H.size → ¬ AX q → H1[q]? = H[q]?) → va_S A0 H0 H1 locs1 → H1[q9]? = some ce → ce.vm = .none → s.vm.findClass E = some ce.cls → vx_W p l e R s m args below meth c H1 locs1 (cells + mc) (slots + ms) Q (F0 m pc ls rest) q9)
    (kk : ∀ (r : Int64) (u : S) (t : State) (H1 : Heap) (locs1 : List Loc), t.heap = H1 → s.vm.Alike t.vm → post r u → B u t → H.size ≤ H1.size → (∀ q : Nat, q < H.size → ¬ A1 q → H1[q]? = H[q]?) → va_S A0 H0 H1 locs1 → W p l e R s m args below meth c H1 locs1 (cells + mc) (slots + ms) Q (F0 m (pc + 3) ls (.long r :: rest))) : W p l e R s m args below meth c H locs cells slots Q (F0 m pc ls st0) := by
  intro T hT X
  rcases hr T hT X with ⟨v, st₀, t, T', L, h0, X', hL, e1, e2, ⟨⟨r, u, hv, hp, hb⟩, hF⟩, st⟩ | ⟨q, st₀, t, T', L, E, ce, h0, X', hL, e1, e2, ⟨u, hp, hb, hF⟩, hce, hcv, hcl, st⟩
  · cases hv
    obtain ⟨k1, k2, k3⟩ := vx_keep h0 e1 hS hA hf hL hF
    obtain ⟨t2, a1, b1⟩ := kk r u t T'.heap (locs ++ L) e1.symm (by rw [← e2]; exact X'.warmed.alike) hp hb k1 k2 k3 T' rfl X'
    exact ⟨t2, st t2 a1, b1⟩
  · obtain ⟨k1, k2, k3⟩ := vx_keep h0 e1 hS hAX hf hL hF
    obtain ⟨t2, a1, b1⟩ := kx E ce q u t T'.heap (locs ++ L) e1.symm (by rw [← e2]; exact X'.warmed.alike) hp hb k1 k2 k3 (by rw [e1]; exact hce) hcv hcl T' rfl X'
    exact ⟨t2, st.trans a1, b1⟩
theorem vx_callf {S SX : Type} {post : UInt32 → S → Prop} {px : SX → Prop} {B : S → State → Prop} {BX : String → SX → State → Prop} {AX : Nat → Prop} (hr : vx_Run p l e R s m args below meth c H locs cells slots mc ms (F0 m pc ls st0) rest (va_Qf post B A1 a) (vx_X px BX AX) free) (hS : va_S A0 H0 H locs) (hA : ∀ q, q < H.size → A1 q → A0 q) (hf : ∀ q, free q → A0 q) (hAX : ∀ q, q < H.size → AX q → A0 q)
    (kx : ∀ (E : String) (ce : Cell) (q9 : Addr) (u : SX) (t : State) (H1 : Heap) (locs1 : List Loc), t.heap = H1 → s.vm.Alike t.vm → px u → BX E u t → H.size ≤ H1.size → (∀ q : Nat, q < H.size → ¬ AX q → H1[q]? = H[q]?) → va_S A0 H0 H1 locs1 → H1[q9]? = some ce → ce.vm = .none → s.vm.findClass E = some ce.cls → vx_W p l e R s m args below meth c H1 locs1 (cells + mc) (slots + ms) Q (F0 m pc ls rest) q9)
    (kk : ∀ (r : UInt32) (u : S) (t : State) (H1 : Heap) (locs1 : List Loc), t.heap = H1 → s.vm.Alike t.vm → post r u → B u t → H.size ≤ H1.size → (∀ q : Nat, q < H.size → ¬ A1 q → H1[q]? = H[q]?) → va_S A0 H0 H1 locs1 → W p l e R s m args below meth c H1 locs1 (cells + mc) (slots + ms) Q (F0 m (pc + 3) ls (.float r :: rest))) : W p l e R s m args below meth c H locs cells slots Q (F0 m pc ls st0) := by
  intro T hT X
  rcases hr T hT X with ⟨v, st₀, t, T', L, h0, X', hL, e1, e2, ⟨⟨r, u, hv, hp, hb⟩, hF⟩, st⟩ | ⟨q, st₀, t, T', L, E, ce, h0, X', hL, e1, e2, ⟨u, hp, hb, hF⟩, hce, hcv, hcl, st⟩
  · cases hv
    obtain ⟨k1, k2, k3⟩ := vx_keep h0 e1 hS hA hf hL hF
    obtain ⟨t2, a1, b1⟩ := kk r u t T'.heap (locs ++ L) e1.symm (by rw [← e2]; exact X'.warmed.alike) hp hb k1 k2 k3 T' rfl X'
    exact ⟨t2, st t2 a1, b1⟩
  · obtain ⟨k1, k2, k3⟩ := vx_keep h0 e1 hS hAX hf hL hF
    obtain ⟨t2, a1, b1⟩ := kx E ce q u t T'.heap (locs ++ L) e1.symm (by rw [← e2]; exact X'.warmed.alike) hp hb k1 k2 k3 (by rw [e1]; exact hce) hcv hcl T' rfl X'
    exact ⟨t2, st.trans a1, b1⟩
theorem vx_calld {S SX : Type} {post : UInt64 → S → Prop} {px : SX → Prop} {B : S → State → Prop} {BX : String → SX → State → Prop} {AX : Nat → Prop} (hr : vx_Run p l e R s m args below meth c H locs cells slots mc ms (F0 m pc ls st0) rest (va_Qd post B A1 a) (vx_X px BX AX) free) (hS : va_S A0 H0 H locs) (hA : ∀ q, q < H.size → A1 q → A0 q) (hf : ∀ q, free q → A0 q) (hAX : ∀ q, q < H.size → AX q → A0 q)
    (kx : ∀ (E : String) (ce : Cell) (q9 : Addr) (u : SX) (t : State) (H1 : Heap) (locs1 : List Loc), t.heap = H1 → s.vm.Alike t.vm → px u → BX E u t → H.size ≤ H1.size → (∀ q : Nat, q < H.size → ¬ AX q → H1[q]? = H[q]?) → va_S A0 H0 H1 locs1 → H1[q9]? = some ce → ce.vm = .none → s.vm.findClass E = some ce.cls → vx_W p l e R s m args below meth c H1 locs1 (cells + mc) (slots + ms) Q (F0 m pc ls rest) q9)
    (kk : ∀ (r : UInt64) (u : S) (t : State) (H1 : Heap) (locs1 : List Loc), t.heap = H1 → s.vm.Alike t.vm → post r u → B u t → H.size ≤ H1.size → (∀ q : Nat, q < H.size → ¬ A1 q → H1[q]? = H[q]?) → va_S A0 H0 H1 locs1 → W p l e R s m args below meth c H1 locs1 (cells + mc) (slots + ms) Q (F0 m (pc + 3) ls (.double r :: rest))) : W p l e R s m args below meth c H locs cells slots Q (F0 m pc ls st0) := by
  intro T hT X
  rcases hr T hT X with ⟨v, st₀, t, T', L, h0, X', hL, e1, e2, ⟨⟨r, u, hv, hp, hb⟩, hF⟩, st⟩ | ⟨q, st₀, t, T', L, E, ce, h0, X', hL, e1, e2, ⟨u, hp, hb, hF⟩, hce, hcv, hcl, st⟩
  · cases hv
    obtain ⟨k1, k2, k3⟩ := vx_keep h0 e1 hS hA hf hL hF
    obtain ⟨t2, a1, b1⟩ := kk r u t T'.heap (locs ++ L) e1.symm (by rw [← e2]; exact X'.warmed.alike) hp hb k1 k2 k3 T' rfl X'
    exact ⟨t2, st t2 a1, b1⟩
  · obtain ⟨k1, k2, k3⟩ := vx_keep h0 e1 hS hAX hf hL hF
    obtain ⟨t2, a1, b1⟩ := kx E ce q u t T'.heap (locs ++ L) e1.symm (by rw [← e2]; exact X'.warmed.alike) hp hb k1 k2 k3 (by rw [e1]; exact hce) hcv hcl T' rfl X'
    exact ⟨t2, st.trans a1, b1⟩
theorem vx_callv {S SX : Type} {post : S → Prop} {px : SX → Prop} {B : S → State → Prop} {BX : String → SX → State → Prop} {AX : Nat → Prop} (hr : vx_Run p l e R s m args below meth c H locs cells slots mc ms (F0 m pc ls st0) rest (va_Qv post B A1 a) (vx_X px BX AX) free) (hS : va_S A0 H0 H locs) (hA : ∀ q, q < H.size → A1 q → A0 q) (hf : ∀ q, free q → A0 q) (hAX : ∀ q, q < H.size → AX q → A0 q)
    (kx : ∀ (E : String) (ce : Cell) (q9 : Addr) (u : SX) (t : State) (H1 : Heap) (locs1 : List Loc), t.heap = H1 → s.vm.Alike t.vm → px u → BX E u t → H.size ≤ H1.size → (∀ q : Nat, q < H.size → ¬ AX q → H1[q]? = H[q]?) → va_S A0 H0 H1 locs1 → H1[q9]? = some ce → ce.vm = .none → s.vm.findClass E = some ce.cls → vx_W p l e R s m args below meth c H1 locs1 (cells + mc) (slots + ms) Q (F0 m pc ls rest) q9)
    (kk : ∀ (u : S) (t : State) (H1 : Heap) (locs1 : List Loc), t.heap = H1 → s.vm.Alike t.vm → post u → B u t → H.size ≤ H1.size → (∀ q : Nat, q < H.size → ¬ A1 q → H1[q]? = H[q]?) → va_S A0 H0 H1 locs1 → W p l e R s m args below meth c H1 locs1 (cells + mc) (slots + ms) Q (F0 m (pc + 3) ls (rest))) : W p l e R s m args below meth c H locs cells slots Q (F0 m pc ls st0) := by
  intro T hT X
  rcases hr T hT X with ⟨v, st₀, t, T', L, h0, X', hL, e1, e2, ⟨⟨u, hv, hp, hb⟩, hF⟩, st⟩ | ⟨q, st₀, t, T', L, E, ce, h0, X', hL, e1, e2, ⟨u, hp, hb, hF⟩, hce, hcv, hcl, st⟩
  · cases hv
    obtain ⟨k1, k2, k3⟩ := vx_keep h0 e1 hS hA hf hL hF
    obtain ⟨t2, a1, b1⟩ := kk u t T'.heap (locs ++ L) e1.symm (by rw [← e2]; exact X'.warmed.alike) hp hb k1 k2 k3 T' rfl X'
    exact ⟨t2, st t2 a1, b1⟩
  · obtain ⟨k1, k2, k3⟩ := vx_keep h0 e1 hS hAX hf hL hF
    obtain ⟨t2, a1, b1⟩ := kx E ce q u t T'.heap (locs ++ L) e1.symm (by rw [← e2]; exact X'.warmed.alike) hp hb k1 k2 k3 (by rw [e1]; exact hce) hcv hcl T' rfl X'
    exact ⟨t2, st.trans a1, b1⟩
theorem vx_catch {own name : String} {E : String} {ce : Cell} {q : Addr} (hown : s.vm.findClass own = some m.cls) (pre : List ExceptionTableEntry) (x : ExceptionTableEntry) (suf : List ExceptionTableEntry) (hsplit : c.exceptionTable.toList = pre ++ x :: suf)
    (hpass : ∀ z ∈ pre, covers z pc = false ∨ (z.catchType ≠ 0 ∧ ∃ nm : String, (Cond.classLink own z.catchType nm).before args s = true ∧ va_Nc E nm s)) (hx : covers x pc = true) (h0 : x.catchType ≠ 0)
    (hlink : (Cond.classLink own x.catchType name).before args s = true) (hcast : (Cond.castable E name).before args s = true) (hcell : H[q]? = some ce) (hv : ce.vm = .none) (hcl : s.vm.findClass E = some ce.cls)
    (kk : W p l e R s m args below meth c H locs cells slots Q (F0 m x.handlerPc ls [.ref q])) : vx_W p l e R s m args below meth c H locs cells slots Q (F0 m pc ls rest) q := by
  intro T hT X
  have hpl : e.platform.magicAccessors = ({} : Platform).magicAccessors := by rw [X.admits.platform]
  obtain ⟨c3, c4, hc3, hc4, hasg⟩ := Cond.castable_spec hcast
  cases Option.some.inj (hc3.symm.trans hcl)
  obtain ⟨c5, hc5, hcl5⟩ := Cond.classLink_spec hown hlink e.platform hpl
  cases Option.some.inj (hc4.symm.trans hc5)
  obtain ⟨vm', X', st⟩ := X.thenCaughtThrough q (g := F0 m pc ls rest) rfl (Steps.refl _) (by rw [hT]; exact hcell) (by rw [hv]; rfl) (by obtain ⟨k9, h9, -⟩ := Vm.findClass_spec hcl; exact ⟨k9, h9⟩) pre x suf hsplit
    (fun z hz => by
      rcases hpass z hz with h | ⟨hz0, nm, hl1, hn1⟩
      · exact Or.inl h
      · obtain ⟨c6, hc6, hcl6⟩ := Cond.classLink_spec hown hl1 e.platform hpl
        obtain ⟨a8, b8, h1, h2, h3⟩ := hn1
        cases Option.some.inj (h1.symm.trans hcl)
        cases Option.some.inj (h2.symm.trans hc6)
        exact Or.inr ⟨hz0, _, hcl6, h3⟩) hx (Or.inr ⟨h0, c4, hcl5, hasg⟩)
  obtain ⟨t, a1, b1⟩ := kk (T.setVm vm') hT X'
  exact ⟨t, st.trans a1, b1⟩
end Rows
section Ends
variable {p : Program} {l : Launch} {e : Env} {R : Room} {s : State} {m : MethodId} {args : Array Value} {below : List Frame} {meth : Method} {c : Code} {H : Heap} {locs : List Loc} {cells slots : Nat} {Q : State → Prop}
variable {mc ms : Nat} {free : Addr → Prop} {A0 A1 : Nat → Prop} {H0 : Heap} {a : Array Value} {ls : Array Slot} {st0 rest : List Value}
variable {Qc : Array Value → State → Outcome → State → Prop} {XC : String → State → State → Prop}
def vx_MQ (below : List Frame) (Qc : Array Value → State → Outcome → State → Prop) (XC : String → State → State → Prop) (a : Array Value) (s : State) (mc ms : Nat) (free : Addr → Prop) : State → Prop := fun t =>
  ∃ o, t.status = .running ∧ Ended t below o ∧ vx_Q Qc XC mc ms free a s o t
theorem vx_ret {g : JFrame} {mc ms : Nat} (k : W p l e R s m args below meth c H locs cells slots (MQ below Qc args s mc ms free) g) : W p l e R s m args below meth c H locs cells slots (vx_MQ below Qc XC args s mc ms free) g := by
  intro T hT X
  obtain ⟨t, a1, o, b1, b2, b3, b4⟩ := k T hT X
  exact ⟨t, a1, o, b1, b2, Or.inl ⟨b3, b4⟩⟩
theorem vx_widen {g : JFrame} {q : Addr} {k n : Nat} (h1 : cells ≤ k) (h2 : slots ≤ n) (kk : vx_W p l e R s m args below meth c H locs k n Q g q) : vx_W p l e R s m args below meth c H locs cells slots Q g q := fun T hT X => kk T hT (stand_widen X h1 h2)
theorem vx_out {pc : Nat} {E : String} {ce : Cell} {q : Addr} {mc ms : Nat} (hout : ∀ x ∈ c.exceptionTable.toList, covers x pc = false) (hlocks : meth.locks = false) (hcell : H[q]? = some ce) (hv : ce.vm = .none) (hcl : s.vm.findClass E = some ce.cls)
    (hx : ∀ t : State, t.heap = H → s.vm.Alike t.vm → XC E s t) (hf : ∀ z ∈ locs, free z.base) (hc : cells ≤ mc) (hs : slots ≤ ms) :
    vx_W p l e R s m args below meth c H locs cells slots (vx_MQ below Qc XC args s mc ms free) (F0 m pc ls rest) q := by
  intro T hT X
  obtain ⟨st1, hrun, hend, hW, hsm⟩ := X.leaveThrown q (g := F0 m pc ls rest) rfl rfl rfl hout hlocks
  have hcell9 : (T.setFrames (.throwing q :: below)).heap[q]? = some ce := by
    show T.heap[q]? = some ce
    rw [hT]; exact hcell
  exact ⟨_, st1, .threw q, hrun, hend, Or.inr ⟨q, rfl, E, ce, locs, hx _ hT hW.alike, hcell9, hv, hcl, hW, hsm.mono hc hs, hf⟩⟩
theorem vx_frame {U : State} {k n : Nat} (h : s.sameButNew ({ U with vm := s.vm } : State) locs k n) : s.heap.size ≤ U.heap.size ∧ ∀ q : Nat, q < s.heap.size → (∀ z ∈ locs, z.base ≠ q) → U.heap[q]? = s.heap[q]? := by
  obtain ⟨-, h2, -, -, -, h6⟩ := h
  refine ⟨h2, fun q hq hz => ?_⟩
  obtain ⟨c9, e1, e2, e3, e4⟩ := h6 q _ (Array.getElem?_eq_getElem hq)
  have hs : c9.slots = (s.heap[q]).slots := Array.ext_getElem? fun i => e4 i fun hm => hz _ hm rfl
  have h9 : c9 = s.heap[q] := by
    rw [hs] at e2
    exact e2
  have e5 : U.heap[q]? = some c9 := e1
  rw [e5, h9, Array.getElem?_eq_getElem hq]
def vx_no (w : Cond) : Bool := decide (w ≠ .isRef (.static Bundle.tN "UNASSIGNED_STACK" Bundle.steD)) && decide (w ≠ .isRef (.static Bundle.tN "SUPPRESSED_SENTINEL" Bundle.listD)) && decide (w ≠ .laysStatic Bundle.tN "UNASSIGNED_STACK" Bundle.steD) && decide (w ≠ .laysStatic Bundle.tN "SUPPRESSED_SENTINEL" Bundle.listD)
def vx_at0 (own : String) (ic : Nat) (X : String) (names : List String) : List Cond := (Bundle.ownAtoms0 own ic X names).filter vx_no
def vx_atS (own : String) (ic : Nat) (X : String) (names : List String) : List Cond := (Bundle.ownAtoms own ic X names).filter vx_no
def vx_ot (w : Cond) : Bool := w.onTables || goodWord w
theorem vx_ot_at {args a' : Array Value} {s U : State} {w : Cond} (hW : s.WarmedH U.vm) (hvm : s.vm = U.vm) (hg : vx_ot w = true) (h : w.before args s = true) : w.before a' U = true := by
  simp only [vx_ot, Bool.or_eq_true] at hg
  rcases hg with hg | hg
  · exact va_tabs hg hvm h
  · exact word_at hW (good_of_word hg) h
theorem vx_hat {args : Array Value} {s : State} {L B : List Cond} (h1 : ∀ w ∈ L.filter goodWord, w.before args s = true) (h2 : ∀ w ∈ L.filter (fun w => !goodWord w), w ∈ B) (h3 : ∀ w ∈ B, w.before args s = true) : ∀ w ∈ L, w.before args s = true := by
  intro w hw
  by_cases g : goodWord w = true
  · exact h1 w (List.mem_filter.mpr ⟨hw, g⟩)
  · refine h3 w (h2 w (List.mem_filter.mpr ⟨hw, ?_⟩))
    show (!goodWord w) = true
    cases hgw : goodWord w
    · rfl
    · exact absurd hgw g
theorem vx_c {args : Array Value} {s : State} {w : Cond} {B : List Cond} (h : w.before args s = true) (t : ∀ w ∈ B, w.before args s = true) : ∀ w' ∈ w :: B, w'.before args s = true := fun w' h' => (List.mem_cons.mp h').elim (fun e => by rw [e]; exact h) (t w')
theorem vx_n {args : Array Value} {s : State} : ∀ w ∈ ([] : List Cond), w.before args s = true := fun _ h => nomatch h
theorem vx_own {args : Array Value} {s : State} {L : List Cond} (h1 : ∀ w ∈ L.filter vx_no, w.before args s = true)
    (hU : (Cond.isRef (.static Bundle.tN "UNASSIGNED_STACK" Bundle.steD)).before args s = true) (hN : (Cond.isRef (.static Bundle.tN "SUPPRESSED_SENTINEL" Bundle.listD)).before args s = true)
    (lU : (Cond.laysStatic Bundle.tN "UNASSIGNED_STACK" Bundle.steD).before args s = true) (lN : (Cond.laysStatic Bundle.tN "SUPPRESSED_SENTINEL" Bundle.listD).before args s = true) : ∀ w ∈ L, w.before args s = true := by
  intro w hw
  by_cases e1 : w = .isRef (.static Bundle.tN "UNASSIGNED_STACK" Bundle.steD)
  · rw [e1]; exact hU
  · by_cases e2 : w = .isRef (.static Bundle.tN "SUPPRESSED_SENTINEL" Bundle.listD)
    · rw [e2]; exact hN
    · by_cases e3 : w = .laysStatic Bundle.tN "UNASSIGNED_STACK" Bundle.steD
      · rw [e3]; exact lU
      · by_cases e4 : w = .laysStatic Bundle.tN "SUPPRESSED_SENTINEL" Bundle.listD
        · rw [e4]; exact lN
        · exact h1 w (List.mem_filter.mpr ⟨hw, by unfold vx_no; rw [decide_eq_true e1, decide_eq_true e2, decide_eq_true e3, decide_eq_true e4]; rfl⟩)
def vx_L (C n d : String) (A : Nat → Prop) (U : State) (H : Heap) : Prop := ∃ (c : ClassId) (k : Class) (i : Nat) (f : Field) (a : Nat) (cell : Cell), U.vm.findClass C = some c ∧ U.fieldFound? C n d = some (c, k, i, f) ∧ f.isStatic = true ∧ k.statics = some a ∧ H[a]? = some cell ∧ cell.vm.isStatics = true ∧ cell.cls = c ∧ f.slot < cell.slots.size ∧ k.staticTypes[f.slot]? = some f.type ∧ ¬ A a
theorem vx_L.moved {C n d : String} {A : Nat → Prop} {u U : State} {H : Heap} (hvm : u.vm.Alike U.vm) (h : vx_L C n d A u H) : vx_L C n d A U H := by
  obtain ⟨c, k, i, f, a, cell, h1, h2, h3, h4, h5, h6, h7, h8, h9, h10⟩ := h
  obtain ⟨k', hi', he⟩ := State.fieldFound?_setVm hvm h2
  exact ⟨c, k', i, f, a, cell, by rw [hvm.findClass]; exact h1, hi', h3, by rw [he]; exact h4, h5, h6, h7, h8, by rw [he]; exact h9, h10⟩
theorem vx_L.kept {C n d : String} {A : Nat → Prop} {U : State} {H H1 : Heap} (h : vx_L C n d A U H) (hq : ∀ a : Nat, a < H.size → ¬ A a → H1[a]? = H[a]?) : vx_L C n d A U H1 := by
  obtain ⟨c, k, i, f, a, cell, h1, h2, h3, h4, h5, h6, h7, h8, h9, h10⟩ := h
  exact ⟨c, k, i, f, a, cell, h1, h2, h3, h4, by rw [hq a (Array.getElem?_eq_some_iff.mp h5).1 h10]; exact h5, h6, h7, h8, h9, h10⟩
theorem vx_L.narrow {C n d : String} {A B : Nat → Prop} {U : State} {H : Heap} (h : vx_L C n d A U H) (hAB : ∀ q, B q → A q) : vx_L C n d B U H := by
  obtain ⟨c, k, i, f, a, cell, h1, h2, h3, h4, h5, h6, h7, h8, h9, h10⟩ := h
  exact ⟨c, k, i, f, a, cell, h1, h2, h3, h4, h5, h6, h7, h8, h9, fun z => h10 (hAB _ z)⟩
theorem vx_L.word {C n d : String} {A : Nat → Prop} {s : State} {args : Array Value} (h : vx_L C n d A s s.heap) : (Cond.laysStatic C n d).before args s = true := by
  obtain ⟨c, k, i, f, a, cell, h1, h2, h3, h4, h5, h6, h7, h8, h9, -⟩ := h
  show (Cond.laysStatic C n d).holds args s none s [] = true
  exact Cond.laysStatic_of h1 h2 h3 h4 h5 h6 h7 h8 h9
def vx_Zq (C n d : String) (A : Nat → Prop) (U : State) (H : Heap) : Prop := va_Zq C n d A U H ∧ vx_L C n d A U H
theorem vx_Zq.moved {C n d : String} {A : Nat → Prop} {u U : State} {H : Heap} (hvm : u.vm.Alike U.vm) (h : vx_Zq C n d A u H) : vx_Zq C n d A U H := ⟨va_Zq.moved hvm h.1, vx_L.moved hvm h.2⟩
theorem vx_Zq.kept {C n d : String} {A : Nat → Prop} {U : State} {H H1 : Heap} (h : vx_Zq C n d A U H) (hq : ∀ a : Nat, a < H.size → ¬ A a → H1[a]? = H[a]?) : vx_Zq C n d A U H1 := ⟨va_Zq.kept h.1 hq, vx_L.kept h.2 hq⟩
theorem vx_Zq.narrow {C n d : String} {A B : Nat → Prop} {U : State} {H : Heap} (h : vx_Zq C n d A U H) (hAB : ∀ q, B q → A q) : vx_Zq C n d B U H := ⟨va_Zq.narrow h.1 hAB, vx_L.narrow h.2 hAB⟩
theorem vx_Zqof {args : Array Value} {s : State} {C n d : String} {A : Nat → Prop} (hl : (Cond.laysStatic C n d).before args s = true) (hini : (Cond.initialized C).before args s = true) (h : (Cond.isRef (.static C n d)).before args s = true) (hA : ∀ a : Nat, a < s.heap.size → ¬ A a) : vx_Zq C n d A s s.heap := by
  refine ⟨va_Zqof hl hini h hA, ?_⟩
  obtain ⟨c, k, i, f, a, cell, h1, h2, h3, h4, h5, h6, h7, h8, h9⟩ := Cond.laysStatic_spec hl
  exact ⟨c, k, i, f, a, cell, h1, h2, h3, h4, h5, h6, h7, h8, h9, hA a (Array.getElem?_eq_some_iff.mp h5).1⟩
theorem vx_isRef {C n d : String} {v : Value} {A : Nat → Prop} {s : State} {args : Array Value} (h : va_Z C n d v A s s.heap) (hv : v.isRef = true) : (Cond.isRef (.static C n d)).before args s = true := by
  obtain ⟨cf, kf, fi, f, a, cell, h1, h2, h3, h4, h5, h6, h7, -⟩ := h
  have he : (Term.static C n d).eval args s none [] s = some v := by
    simp [Term.eval, State.fieldNamed?, h1, h2, h4, h5, h6, h7]
  simp only [Cond.before, Cond.holds, Cond.value, he]
  cases v <;> simp_all [Value.isRef]
theorem vx_isRefq {C n d : String} {A : Nat → Prop} {s : State} {args : Array Value} (h : va_Zq C n d A s s.heap) : (Cond.isRef (.static C n d)).before args s = true := by
  rcases h with h | ⟨t, h⟩
  · exact vx_isRef h rfl
  · exact vx_isRef h rfl
theorem vx_rebase {T : State} (X : Stand p l e R s m args below meth c T locs cells slots) {R' : Room} (hf : R'.frames ≤ R.frames) (hl : R'.locals ≤ R.locals) (hc : cells + R'.cells ≤ R.cells) (hs : slots + R'.slots ≤ R.slots) :
    Stand p l e R' ((T.setVm s.vm).setFrames (.invoking m args :: below)) m args below meth c T [] 0 0 := by
  have htop : (T.setVm s.vm).topJava?.isSome := X.here.top
  have hF : ((T.setVm s.vm).setFrames (.invoking m args :: below)).frames = .invoking m args :: below := State.frames_setFrames _ (State.cur_lt_of_top htop)
  obtain ⟨g₀, hg0⟩ := Option.isSome_iff_exists.mp htop
  obtain ⟨r, hr⟩ := State.topJava?_eq_some.mp hg0
  have hl9 : e.platform.stackLimits (T.setVm s.vm).me = e.platform.stackLimits s.me := X.limits
  have hb9 : (T.setVm s.vm).me.stackBytes = s.me.stackBytes := X.bytes
  refine ⟨X.admits, X.cas, X.clock, hF, ?_, X.hears, X.method, X.code, X.here, X.tail, X.warmed, ?_, ?_, ?_⟩
  · have h := X.room
    have hU : ((T.setVm s.vm).setFrames (.invoking m args :: below)).localsInUse = s.localsInUse := by
      rw [State.localsInUse_invoking hF (meth := meth) (c := c) X.method X.code, State.localsInUse_invoking X.frames X.method X.code]
    simp only [State.hasRoom, Bool.and_eq_true, decide_eq_true_eq] at h ⊢
    obtain ⟨⟨⟨⟨h1, h2, h3, h4, h5, h6⟩, h7⟩, h8⟩, h9⟩ := h
    rw [X.frames, List.length_cons] at h2 h3
    have q1 := X.heapSize
    have q2 := X.used
    simp only [hF, hU, List.length_cons, State.stackLimits_setFrames, State.stackBytes_setFrames, hl9, hb9]
    refine ⟨⟨⟨⟨by omega, by omega, by omega, by omega, by omega, h6⟩, ?_⟩, ?_⟩, X.book⟩
    · show T.heap.size + R'.cells ≤ e.platform.maxCells
      omega
    · show T.slotsUsed + R'.slots ≤ e.platform.maxSlots
      omega
  · rw [State.stackLimits_setFrames]; rfl
  · rw [State.stackBytes_setFrames]; rfl
  · refine ⟨?_, Nat.le_refl _, Nat.le_refl _, ?_, ?_, fun a c9 h9 => ⟨c9, h9, rfl, rfl, fun _ _ => rfl⟩⟩
    · obtain ⟨t, ht, -⟩ := State.frames_cons hr
      show T.setVm s.vm = { ((T.setVm s.vm).setFrames (.invoking m args :: below)).setFrames (T.setVm s.vm).frames with heap := T.heap, slotsUsed := T.slotsUsed }
      rw [State.setFrames_setFrames, State.setFrames_self ht]
      rfl
    · show T.slotsUsed = T.slotsUsed + ((T.heap.toList.drop T.heap.size).map (·.slots.size)).sum
      rw [List.drop_eq_nil_of_le (Nat.le_of_eq Array.length_toList)]
      rfl
    · show ((T.heap.toList.drop T.heap.size).map (·.slots.size)).sum ≤ 0
      rw [List.drop_eq_nil_of_le (Nat.le_of_eq Array.length_toList)]
      exact Nat.le_refl _
theorem vx_throw0 {cc : ByteArray} {pc : Nat} (hexec : p.tables.exec = Jvm.exec) (hb : c.code = cc) (hl : l.stackTraces = false) {own cls : String} {names : List String} {ik ic mc ms : Nat} {A : Nat → Prop}
    (hown : s.vm.findClass own = some m.cls) (hcls : Bundle.fit cls = true) (hnames : ∀ n ∈ names, Bundle.fit n = true)
    (hk : (Cond.classLink own ik cls).before args s = true) (hini : (Cond.initialized cls).before args s = true) (hat : ∀ w ∈ vx_at0 own ic cls names, w.before args s = true)
    (hgood : ∀ w ∈ Cond.classLink own ik cls :: Cond.initialized cls :: vx_at0 own ic cls names, vx_ot w = true)
    (hU : vx_Zq Bundle.tN "UNASSIGNED_STACK" Bundle.steD A s s.heap) (hN : vx_Zq Bundle.tN "SUPPRESSED_SENTINEL" Bundle.listD A s s.heap) (hS : va_S A s.heap H locs) (hsize : ls.size = c.maxLocals)
    (d0 : decode cc pc = .ok (.new ik, 3)) (d3 : decode cc (pc + 3) = .ok (.dup, 1)) (d4 : decode cc (pc + 4) = .ok (.invokespecial ic, 3)) (d7 : decode cc (pc + 7) = .ok (.athrow, 1))
    (hout : ∀ x ∈ c.exceptionTable.toList, covers x (pc + 7) = false)
    (hRframes : names.length + 3 < R.frames) (hRlocals : (rest.map fun v => v.category).sum + (13 * (names.length + 1) + 42) ≤ R.locals) (hRcells : cells + 1 ≤ R.cells) (hRslots : slots + 6 ≤ R.slots) (hlocks : meth.locks = false)
    (hx : ∀ t : State, s.vm.Alike t.vm → H.size ≤ t.heap.size → (∀ q : Nat, q < H.size → t.heap[q]? = H[q]?) → XC cls s t)
    (hf : ∀ z ∈ locs, free z.base) (hc : cells + 1 ≤ mc) (hs : slots + 6 ≤ ms) :
    W p l e R s m args below meth c H locs cells slots (vx_MQ below Qc XC args s mc ms free) (F0 m pc ls rest) := by
  intro T hT X
  have htr : e.platform.stackTraces = false := (show e.platform.stackTraces = l.stackTraces by rw [X.admits.platform]).trans hl
  have Y := vx_rebase X (R' := { frames := R.frames, locals := R.locals, cells := 1, slots := 6 }) (Nat.le_refl _) (Nat.le_refl _) hRcells hRslots
  obtain ⟨s', hA⟩ : ∃ z, z = (T.setVm s.vm).setFrames (.invoking m args :: below) := ⟨_, rfl⟩
  rw [← hA] at Y
  have hvm : s'.vm = s.vm := by rw [hA]; rfl
  have hhp : s'.heap = H := by rw [hA]; exact hT
  have hW0 : s.WarmedH s'.vm := by rw [hvm]; exact State.WarmedH.refl s
  have hat' : ∀ w ∈ vx_at0 own ic cls names, w.before args s' = true := fun w hw => vx_ot_at hW0 hvm.symm (hgood w (List.mem_cons_of_mem _ (List.mem_cons_of_mem _ hw))) (hat w hw)
  have hk' : (Cond.classLink own ik cls).before args s' = true := vx_ot_at hW0 hvm.symm (hgood _ List.mem_cons_self) hk
  have hini' : (Cond.initialized cls).before args s' = true := vx_ot_at hW0 hvm.symm (hgood _ (List.mem_cons_of_mem _ List.mem_cons_self)) hini
  have hU' : vx_Zq Bundle.tN "UNASSIGNED_STACK" Bundle.steD A s' s'.heap := by rw [hhp]; exact vx_Zq.moved hW0.alike (hU.kept hS.2.1)
  have hN' : vx_Zq Bundle.tN "SUPPRESSED_SENTINEL" Bundle.listD A s' s'.heap := by rw [hhp]; exact vx_Zq.moved hW0.alike (hN.kept hS.2.1)
  have h : ∀ w ∈ Bundle.ownAtoms0 own ic cls names, w.before args s' = true := vx_own hat' (vx_isRefq hU'.1) (vx_isRefq hN'.1) hU'.2.word hN'.2.word
  have hown' : s'.vm.findClass own = some m.cls := by rw [hvm]; exact hown
  have hins : (Cond.instantiable cls 6).before args s' = true := h _ (by simp [Bundle.ownAtoms0])
  obtain ⟨vm₁, cX, kX, hfX, hkX, -, -, X₁, st1⟩ := Y.newCold hexec (own := own) (C := cls) (index := ik) (n := 6) hown' hk' hins hini'
    (g := F0 m pc ls rest) rfl (by rw [hb]; exact d0) (Nat.le_refl _) (Nat.le_refl _)
  generalize hT1 : (T.setVm vm₁).pushCell { cls := cX, slots := kX.instanceTypes.map defaultValue, vm := .none } = T1 at X₁ st1
  have hcat : (Value.ref T.heap.size).category = 1 := rfl
  have hcellA : T1.heap[T.heap.size]? = some (freshCell cX kX) := by rw [← hT1]; exact State.heap_pushCell_size _ _
  have d3' : decode c.code (pc + 3) = .ok (.dup, 1) := by rw [hb]; exact d3
  obtain ⟨U, hsteps, hrun, hend, hW, hsame, ce, hce, hO⟩ := X₁.ctorThrow0 hexec htr (own := own) (cls := cls) (names := names) (ic := ic) hown' hcls hnames h (fun x hx => nomatch hx) hfX hkX hcellA (by rw [hhp, hT]; exact Nat.le_refl _)
    (g := { method := m, pc := pc + 4, locals := ls, stack := .ref T.heap.size :: .ref T.heap.size :: rest, locked := none }) rfl hsize rfl rfl (rest := rest) rfl
    (by rw [hb]; exact d4) (by rw [hb]; exact d7) hout hRframes (by simp only [List.map_cons, List.sum_cons, hcat]; omega) hlocks
  obtain ⟨f1, f2⟩ := vx_frame hsame
  rw [hhp] at f1 f2
  have hWs : s.WarmedH U.vm := State.WarmedH.trans hW0 hW
  have hcl : s.vm.findClass cls = some ce.cls := by
    have h9 := hO.cls
    rw [hvm] at h9
    exact h9
  have hall : s.sameButNew ({ U with vm := s.vm } : State) locs mc ms := by
    subst hA
    obtain ⟨e1, e2⟩ := hsame
    rw [State.setFrames_setFrames] at e1
    have h2 : (T.setVm s.vm).sameButNew ({ U with vm := s.vm } : State) [] (0 + 1) (0 + 6) := ⟨e1, e2⟩
    have h3 := X.same.trans h2
    rw [List.append_nil] at h3
    exact h3.mono hc hs
  refine ⟨U, ?_, .threw T.heap.size, hrun, hend, Or.inr ⟨T.heap.size, rfl, cls, ce, locs, hx U hWs.alike f1 (fun q hq => f2 q hq (fun z hz => nomatch hz)), hce, hO.vm, hcl, hWs, hall, hf⟩⟩
  refine st1 _ ?_
  show Steps p.tables e below (T1.setTop { method := m, pc := pc + 3, locals := ls, stack := .ref T.heap.size :: rest, locked := none }) _
  jvm_step X₁.here [X₁.here.top, hexec, d3', Value.category]
  exact hsteps
theorem vx_throwS {cc : ByteArray} {pc : Nat} (hexec : p.tables.exec = Jvm.exec) (hb : c.code = cc) (hl : l.stackTraces = false) {own cls text : String} {names : List String} {ik is ic mc ms sa : Nat} {A : Nat → Prop}
    (hown : s.vm.findClass own = some m.cls) (hcls : Bundle.fit cls = true) (hnames : ∀ n ∈ names, Bundle.fit n = true)
    (hk : (Cond.classLink own ik cls).before args s = true) (hini : (Cond.initialized cls).before args s = true) (hstr : vk_R own is text sa s) (hat : ∀ w ∈ vx_atS own ic cls names, w.before args s = true)
    (hgood : ∀ w ∈ Cond.classLink own ik cls :: Cond.initialized cls :: vx_atS own ic cls names, vx_ot w = true)
    (hU : vx_Zq Bundle.tN "UNASSIGNED_STACK" Bundle.steD A s s.heap) (hN : vx_Zq Bundle.tN "SUPPRESSED_SENTINEL" Bundle.listD A s s.heap) (hS : va_S A s.heap H locs) (hsize : ls.size = c.maxLocals)
    (d0 : decode cc pc = .ok (.new ik, 3)) (d3 : decode cc (pc + 3) = .ok (.dup, 1)) (d4 : decode cc (pc + 4) = .ok (.ldc is, 2)) (d6 : decode cc (pc + 6) = .ok (.invokespecial ic, 3)) (d9 : decode cc (pc + 9) = .ok (.athrow, 1))
    (hout : ∀ x ∈ c.exceptionTable.toList, covers x (pc + 9) = false)
    (hRframes : names.length + 3 < R.frames) (hRlocals : (rest.map fun v => v.category).sum + (13 * (names.length + 1) + 43) ≤ R.locals) (hRcells : cells + 1 ≤ R.cells) (hRslots : slots + 6 ≤ R.slots) (hlocks : meth.locks = false)
    (hx : ∀ t : State, s.vm.Alike t.vm → H.size ≤ t.heap.size → (∀ q : Nat, q < H.size → t.heap[q]? = H[q]?) → XC cls s t)
    (hf : ∀ z ∈ locs, free z.base) (hc : cells + 1 ≤ mc) (hs : slots + 6 ≤ ms) :
    W p l e R s m args below meth c H locs cells slots (vx_MQ below Qc XC args s mc ms free) (F0 m pc ls rest) := by
  intro T hT X
  have htr : e.platform.stackTraces = false := (show e.platform.stackTraces = l.stackTraces by rw [X.admits.platform]).trans hl
  have Y := vx_rebase X (R' := { frames := R.frames, locals := R.locals, cells := 1, slots := 6 }) (Nat.le_refl _) (Nat.le_refl _) hRcells hRslots
  obtain ⟨s', hA⟩ : ∃ z, z = (T.setVm s.vm).setFrames (.invoking m args :: below) := ⟨_, rfl⟩
  rw [← hA] at Y
  have hvm : s'.vm = s.vm := by rw [hA]; rfl
  have hhp : s'.heap = H := by rw [hA]; exact hT
  have hW0 : s.WarmedH s'.vm := by rw [hvm]; exact State.WarmedH.refl s
  have hat' : ∀ w ∈ vx_atS own ic cls names, w.before args s' = true := fun w hw => vx_ot_at hW0 hvm.symm (hgood w (List.mem_cons_of_mem _ (List.mem_cons_of_mem _ hw))) (hat w hw)
  have hk' : (Cond.classLink own ik cls).before args s' = true := vx_ot_at hW0 hvm.symm (hgood _ List.mem_cons_self) hk
  have hini' : (Cond.initialized cls).before args s' = true := vx_ot_at hW0 hvm.symm (hgood _ (List.mem_cons_of_mem _ List.mem_cons_self)) hini
  have hU' : vx_Zq Bundle.tN "UNASSIGNED_STACK" Bundle.steD A s' s'.heap := by rw [hhp]; exact vx_Zq.moved hW0.alike (hU.kept hS.2.1)
  have hN' : vx_Zq Bundle.tN "SUPPRESSED_SENTINEL" Bundle.listD A s' s'.heap := by rw [hhp]; exact vx_Zq.moved hW0.alike (hN.kept hS.2.1)
  have h : ∀ w ∈ Bundle.ownAtoms own ic cls names, w.before args s' = true := vx_own hat' (vx_isRefq hU'.1) (vx_isRefq hN'.1) hU'.2.word hN'.2.word
  have hown' : s'.vm.findClass own = some m.cls := by rw [hvm]; exact hown
  have hins : (Cond.instantiable cls 6).before args s' = true := h _ (by simp [Bundle.ownAtoms])
  obtain ⟨vm₁, cX, kX, hfX, hkX, -, -, X₁, st1⟩ := Y.newCold hexec (own := own) (C := cls) (index := ik) (n := 6) hown' hk' hins hini'
    (g := F0 m pc ls rest) rfl (by rw [hb]; exact d0) (Nat.le_refl _) (Nat.le_refl _)
  generalize hT1 : (T.setVm vm₁).pushCell { cls := cX, slots := kX.instanceTypes.map defaultValue, vm := .none } = T1 at X₁ st1
  have hcat : (Value.ref T.heap.size).category = 1 := rfl
  have hcellA : T1.heap[T.heap.size]? = some (freshCell cX kX) := by rw [← hT1]; exact State.heap_pushCell_size _ _
  have d3' : decode c.code (pc + 3) = .ok (.dup, 1) := by rw [hb]; exact d3
  have d4' : decode c.code (pc + 4) = .ok (.ldc is, 2) := by rw [hb]; exact d4
  have hstr' : vk_R own is text sa s' := vk_R.warm hW0 hstr
  obtain ⟨U, hsteps, hrun, hend, hW, hsame, ce, hce, hO⟩ := X₁.ctorThrowS hexec htr (own := own) (cls := cls) (names := names) (ic := ic) hown' hcls hnames h (fun x hx => nomatch hx) hfX hkX hcellA (by rw [hhp, hT]; exact Nat.le_refl _) (msg := .ref sa) rfl
    (g := { method := m, pc := pc + 6, locals := ls, stack := .ref sa :: .ref T.heap.size :: .ref T.heap.size :: rest, locked := none }) rfl hsize rfl rfl (rest := rest) rfl
    (by rw [hb]; exact d6) (by rw [hb]; exact d9) hout hRframes (by simp only [List.map_cons, List.sum_cons, hcat]; omega) hlocks
  obtain ⟨f1, f2⟩ := vx_frame hsame
  rw [hhp] at f1 f2
  have hWs : s.WarmedH U.vm := State.WarmedH.trans hW0 hW
  have hcl : s.vm.findClass cls = some ce.cls := by
    have h9 := hO.cls
    rw [hvm] at h9
    exact h9
  have hall : s.sameButNew ({ U with vm := s.vm } : State) locs mc ms := by
    subst hA
    obtain ⟨e1, e2⟩ := hsame
    rw [State.setFrames_setFrames] at e1
    have h2 : (T.setVm s.vm).sameButNew ({ U with vm := s.vm } : State) [] (0 + 1) (0 + 6) := ⟨e1, e2⟩
    have h3 := X.same.trans h2
    rw [List.append_nil] at h3
    exact h3.mono hc hs
  refine ⟨U, ?_, .threw T.heap.size, hrun, hend, Or.inr ⟨T.heap.size, rfl, cls, ce, locs, hx U hWs.alike f1 (fun q hq => f2 q hq (fun z hz => nomatch hz)), hce, hO.vm, hcl, hWs, hall, hf⟩⟩
  refine st1 _ ?_
  show Steps p.tables e below (T1.setTop { method := m, pc := pc + 3, locals := ls, stack := .ref T.heap.size :: rest, locked := none }) _
  jvm_step X₁.here [X₁.here.top, hexec, d3', Value.category]
  exact X₁.ldcString hexec (own := own) (text := text) (index := is) (a := sa) hown' hstr'.1 hstr'.2
    (g := { method := m, pc := pc + 4, locals := ls, stack := .ref T.heap.size :: .ref T.heap.size :: rest, locked := none }) rfl d4' _ hsteps
theorem vx_throwSW {cc : ByteArray} {pc : Nat} (hexec : p.tables.exec = Jvm.exec) (hb : c.code = cc) (hl : l.stackTraces = false) {own cls text : String} {names : List String} {ik is ic mc ms sa : Nat} {A : Nat → Prop}
    (hown : s.vm.findClass own = some m.cls) (hcls : Bundle.fit cls = true) (hnames : ∀ n ∈ names, Bundle.fit n = true)
    (hk : (Cond.classLink own ik cls).before args s = true) (hini : (Cond.initialized cls).before args s = true) (hstr : vk_R own is text sa s) (hat : ∀ w ∈ vx_atS own ic cls names, w.before args s = true)
    (hgood : ∀ w ∈ Cond.classLink own ik cls :: Cond.initialized cls :: vx_atS own ic cls names, vx_ot w = true)
    (hU : vx_Zq Bundle.tN "UNASSIGNED_STACK" Bundle.steD A s s.heap) (hN : vx_Zq Bundle.tN "SUPPRESSED_SENTINEL" Bundle.listD A s s.heap) (hS : va_S A s.heap H locs) (hsize : ls.size = c.maxLocals)
    (d0 : decode cc pc = .ok (.new ik, 3)) (d3 : decode cc (pc + 3) = .ok (.dup, 1)) (d4 : decode cc (pc + 4) = .ok (.ldc_w is, 3)) (d7 : decode cc (pc + 7) = .ok (.invokespecial ic, 3)) (d10 : decode cc (pc + 10) = .ok (.athrow, 1))
    (hout : ∀ x ∈ c.exceptionTable.toList, covers x (pc + 10) = false)
    (hRframes : names.length + 3 < R.frames) (hRlocals : (rest.map fun v => v.category).sum + (13 * (names.length + 1) + 43) ≤ R.locals) (hRcells : cells + 1 ≤ R.cells) (hRslots : slots + 6 ≤ R.slots) (hlocks : meth.locks = false)
    (hx : ∀ t : State, s.vm.Alike t.vm → H.size ≤ t.heap.size → (∀ q : Nat, q < H.size → t.heap[q]? = H[q]?) → XC cls s t)
    (hf : ∀ z ∈ locs, free z.base) (hc : cells + 1 ≤ mc) (hs : slots + 6 ≤ ms) :
    W p l e R s m args below meth c H locs cells slots (vx_MQ below Qc XC args s mc ms free) (F0 m pc ls rest) := by
  intro T hT X
  have htr : e.platform.stackTraces = false := (show e.platform.stackTraces = l.stackTraces by rw [X.admits.platform]).trans hl
  have Y := vx_rebase X (R' := { frames := R.frames, locals := R.locals, cells := 1, slots := 6 }) (Nat.le_refl _) (Nat.le_refl _) hRcells hRslots
  obtain ⟨s', hA⟩ : ∃ z, z = (T.setVm s.vm).setFrames (.invoking m args :: below) := ⟨_, rfl⟩
  rw [← hA] at Y
  have hvm : s'.vm = s.vm := by rw [hA]; rfl
  have hhp : s'.heap = H := by rw [hA]; exact hT
  have hW0 : s.WarmedH s'.vm := by rw [hvm]; exact State.WarmedH.refl s
  have hat' : ∀ w ∈ vx_atS own ic cls names, w.before args s' = true := fun w hw => vx_ot_at hW0 hvm.symm (hgood w (List.mem_cons_of_mem _ (List.mem_cons_of_mem _ hw))) (hat w hw)
  have hk' : (Cond.classLink own ik cls).before args s' = true := vx_ot_at hW0 hvm.symm (hgood _ List.mem_cons_self) hk
  have hini' : (Cond.initialized cls).before args s' = true := vx_ot_at hW0 hvm.symm (hgood _ (List.mem_cons_of_mem _ List.mem_cons_self)) hini
  have hU' : vx_Zq Bundle.tN "UNASSIGNED_STACK" Bundle.steD A s' s'.heap := by rw [hhp]; exact vx_Zq.moved hW0.alike (hU.kept hS.2.1)
  have hN' : vx_Zq Bundle.tN "SUPPRESSED_SENTINEL" Bundle.listD A s' s'.heap := by rw [hhp]; exact vx_Zq.moved hW0.alike (hN.kept hS.2.1)
  have h : ∀ w ∈ Bundle.ownAtoms own ic cls names, w.before args s' = true := vx_own hat' (vx_isRefq hU'.1) (vx_isRefq hN'.1) hU'.2.word hN'.2.word
  have hown' : s'.vm.findClass own = some m.cls := by rw [hvm]; exact hown
  have hins : (Cond.instantiable cls 6).before args s' = true := h _ (by simp [Bundle.ownAtoms])
  obtain ⟨vm₁, cX, kX, hfX, hkX, -, -, X₁, st1⟩ := Y.newCold hexec (own := own) (C := cls) (index := ik) (n := 6) hown' hk' hins hini'
    (g := F0 m pc ls rest) rfl (by rw [hb]; exact d0) (Nat.le_refl _) (Nat.le_refl _)
  generalize hT1 : (T.setVm vm₁).pushCell { cls := cX, slots := kX.instanceTypes.map defaultValue, vm := .none } = T1 at X₁ st1
  have hcat : (Value.ref T.heap.size).category = 1 := rfl
  have hcellA : T1.heap[T.heap.size]? = some (freshCell cX kX) := by rw [← hT1]; exact State.heap_pushCell_size _ _
  have d3' : decode c.code (pc + 3) = .ok (.dup, 1) := by rw [hb]; exact d3
  have d4' : decode c.code (pc + 4) = .ok (.ldc_w is, 3) := by rw [hb]; exact d4
  have hstr' : vk_R own is text sa s' := vk_R.warm hW0 hstr
  obtain ⟨U, hsteps, hrun, hend, hW, hsame, ce, hce, hO⟩ := X₁.ctorThrowS hexec htr (own := own) (cls := cls) (names := names) (ic := ic) hown' hcls hnames h (fun x hx => nomatch hx) hfX hkX hcellA (by rw [hhp, hT]; exact Nat.le_refl _) (msg := .ref sa) rfl
    (g := { method := m, pc := pc + 7, locals := ls, stack := .ref sa :: .ref T.heap.size :: .ref T.heap.size :: rest, locked := none }) rfl hsize rfl rfl (rest := rest) rfl
    (by rw [hb]; exact d7) (by rw [hb]; exact d10) hout hRframes (by simp only [List.map_cons, List.sum_cons, hcat]; omega) hlocks
  obtain ⟨f1, f2⟩ := vx_frame hsame
  rw [hhp] at f1 f2
  have hWs : s.WarmedH U.vm := State.WarmedH.trans hW0 hW
  have hcl : s.vm.findClass cls = some ce.cls := by
    have h9 := hO.cls
    rw [hvm] at h9
    exact h9
  have hall : s.sameButNew ({ U with vm := s.vm } : State) locs mc ms := by
    subst hA
    obtain ⟨e1, e2⟩ := hsame
    rw [State.setFrames_setFrames] at e1
    have h2 : (T.setVm s.vm).sameButNew ({ U with vm := s.vm } : State) [] (0 + 1) (0 + 6) := ⟨e1, e2⟩
    have h3 := X.same.trans h2
    rw [List.append_nil] at h3
    exact h3.mono hc hs
  refine ⟨U, ?_, .threw T.heap.size, hrun, hend, Or.inr ⟨T.heap.size, rfl, cls, ce, locs, hx U hWs.alike f1 (fun q hq => f2 q hq (fun z hz => nomatch hz)), hce, hO.vm, hcl, hWs, hall, hf⟩⟩
  refine st1 _ ?_
  show Steps p.tables e below (T1.setTop { method := m, pc := pc + 3, locals := ls, stack := .ref T.heap.size :: rest, locked := none }) _
  jvm_step X₁.here [X₁.here.top, hexec, d3', Value.category]
  exact X₁.ldcStringW hexec (own := own) (text := text) (index := is) (a := sa) hown' hstr'.1 hstr'.2
    (g := { method := m, pc := pc + 4, locals := ls, stack := .ref T.heap.size :: .ref T.heap.size :: rest, locked := none }) rfl d4' _ hsteps
end Ends
section Bodies
variable {l : Launch}
theorem vx_ofW {y : MethodName} {ws ws' : List Cond} {rm : Room} {Pc : Array Value → State → Prop} {Qc : Array Value → State → Outcome → State → Prop} {XC : String → State → State → Prop} {mc ms : Nat} {free : Addr → Prop} {cc : ByteArray} {maxL : Nat} {ret : Option FieldType}
    (hy : plainName y.cls = true) (hw : ws = Cond.code y cc maxL ret :: ws')
    (body : ∀ p e s m args below meth c s₁, BodyLoose p l y (headSpec ws rm) cc maxL ret e s m args below meth c s₁ → c.maxLocals = maxL → (∀ x ∈ c.exceptionTable.toList, False) → Pc args s →
      W p l e (headSpec ws rm).room s m args below meth c s.heap [] 0 0 (vx_MQ below Qc XC args s mc ms free) (entryFrame m args maxL)) : vx_Met l y ws rm Pc Qc XC mc ms free := by
  refine MetFree.of_bodyS (code := cc) (maxLocals := maxL) (ret := ret) hy ?_ ?_
  · intro args s m h hn
    obtain ⟨meth, c, h1, h2, h3, h4, h5, h6, -, -⟩ := Cond.code_spec hn (atoms_spec (ws := ws) h _ (by rw [hw]; exact List.mem_cons_self))
    exact ⟨meth, c, h1, h2, h3, h4, h5, h6⟩
  · intro p e s m args below meth c s₁ B hml hP _
    have hh0 : s₁.heap = s.heap := by rw [B.state]; rfl
    have ht : ∀ x ∈ c.exceptionTable.toList, False := by
      obtain ⟨meth9, c9, h1, h2, -, -, -, -, h7, -⟩ := Cond.code_spec B.named (atoms_spec (ws := ws) B.pre _ (by rw [hw]; exact List.mem_cons_self))
      cases Option.some.inj (h1.symm.trans B.method)
      cases Option.some.inj (h2.symm.trans (Stand.of_body B).code)
      intro x hx
      rw [Array.isEmpty_iff.mp h7] at hx
      cases hx
    obtain ⟨t, a1, o, b1, b2, b3⟩ := body p e s m args below meth c s₁ B hml ht hP s₁ hh0 (Stand.of_body B)
    exact ⟨t, o, a1, b1, b2, b3⟩
theorem vx_table {p : Program} {x y : MethodName} {S : Spec} {cc bytes : ByteArray} {maxL maxL' : Nat} {ret ret' : Option FieldType} {e : Env} {s s₁ : State} {m : MethodId} {args : Array Value} {below : List Frame} {meth : Method} {c : Code} {hh : List (Nat × Nat × Nat × Nat)}
    (B : BodyLoose p l y S cc maxL ret e s m args below meth c s₁) (h : (Cond.codeWith y bytes maxL' ret' hh).before args s = true) : c.exceptionTable.toList = tableOf hh := by
  obtain ⟨m9, meth9, c9, hn9, h1, h2, -, -, h6, -⟩ := Cond.codeWith_spec h
  cases Option.some.inj (hn9.symm.trans B.named)
  cases Option.some.inj (h1.symm.trans B.method)
  cases Option.some.inj (h2.symm.trans (Stand.of_body B).code)
  rw [← h6, table_eq]
end Bodies
end VXA
section VXS
variable {p : Program} {l : Launch} {e : Env} {R : Room} {s : State} {m : MethodId} {args : Array Value} {below : List Frame} {meth : Method} {c : Code} {T : State} {H : Heap} {locs : List Loc} {cells slots : Nat}
abbrev vx_CSW (R : Room) (s : State) (args : Array Value) (own : String) (index : Nat) (y : MethodName) (bytes : ByteArray) (maxL : Nat) (ret : Option FieldType) (hh : List (Nat × Nat × Nat × Nat)) (ws : List Cond) (rm : Room) (mc ms n : Nat) : Prop :=
  (rm.cells = mc ∧ rm.slots = ms ∧ rm.frames + 1 ≤ R.frames ∧ 8 + (maxL + 11) + rm.locals ≤ R.locals ∧ (∀ w ∈ ws, ∀ (a' : Array Value) (U : State), s.WarmedH U.vm → w.before a' U = true) ∧ Cond.codeWith y bytes maxL ret hh ∈ ws) ∧
  (Cond.codeWith y bytes maxL ret hh).before args s = true ∧ (Cond.initialized y.cls).before args s = true ∧ (y.cls ≠ "java/lang/invoke/MethodHandle" ∧ y.cls ≠ "java/lang/invoke/VarHandle") ∧
  (∀ sig, parseMethodDescriptor y.desc = some sig → n = sig.parameters.length) ∧ (Cond.methodLink own index y).before args s = true ∧ (Cond.static y).before args s = true
theorem vx_cwSW {own : String} {index maxL mc ms : Nat} {y : MethodName} {bytes : ByteArray} {ret : Option FieldType} {hh : List (Nat × Nat × Nat × Nat)} {Ts ws ws' : List Cond} {rm : Room} (n : Nat) (ht : ∀ w ∈ Ts, w.before args s = true) (hT : GoodIn Ts (va_wsS own index y ws)) (hw : ws = Cond.codeWith y bytes maxL ret hh :: ws') (hrc : rm.cells = mc) (hrs : rm.slots = ms)
    (hd : y.cls ≠ "java/lang/invoke/MethodHandle" ∧ y.cls ≠ "java/lang/invoke/VarHandle" ∧ (parseMethodDescriptor y.desc).map (fun d => d.parameters.length) = some n) (hR : rm.frames + 1 ≤ R.frames ∧ 8 + (maxL + 11) + rm.locals ≤ R.locals) :
    vx_CSW R s args own index y bytes maxL ret hh ws rm mc ms n := by
  have ok : ∀ w ∈ va_wsS own index y ws, w.before args s = true := fun w h => ht w (hT w h).1
  have hG : GoodIn Ts ws := fun w h => hT w (by unfold va_wsS; exact List.mem_append_right _ h)
  have hc : Cond.codeWith y bytes maxL ret hh ∈ ws := by rw [hw]; exact List.mem_cons_self
  refine ⟨⟨hrc, hrs, hR.1, hR.2, pay_in ht hG, hc⟩, ht _ (hG _ hc).1, ok _ (by simp [va_wsS]), ⟨hd.1, hd.2.1⟩, fun sig h => ?_, ok _ (by simp [va_wsS]), ok _ (by simp [va_wsS])⟩
  have h2 := hd.2.2
  rw [h] at h2
  exact (Option.some.inj h2).symm
theorem vx_callSW (X : Stand p l e R s m args below meth c T locs cells slots) (hexec : p.tables.exec = Jvm.exec) {own : String} {index : Nat} {y : MethodName} {bytes : ByteArray} {maxL : Nat} {ret : Option FieldType} {hh : List (Nat × Nat × Nat × Nat)}
    (hown : s.vm.findClass own = some m.cls) (hlink : (Cond.methodLink own index y).before args s = true) (hstat : (Cond.static y).before args s = true) (hinit : (Cond.initialized y.cls).before args s = true)
    (hcode : (Cond.codeWith y bytes maxL ret hh).before args s = true) (hy : y.cls ≠ "java/lang/invoke/MethodHandle" ∧ y.cls ≠ "java/lang/invoke/VarHandle")
    {W9 : Nat} {Pre : Pt → Array Value → Prop} {Post : Pt → Array Value → Option Value → Pt → Prop} (hK : Back l R p e below s args y 3 W9 Pre Post)
    {g : JFrame} (hg : g.method = m) (hsize : g.locals.size = c.maxLocals) {argsL rest : List Value} (hlen : ∀ sig, parseMethodDescriptor y.desc = some sig → argsL.length = sig.parameters.length)
    (hstack : g.stack = argsL.reverse ++ rest) (hW : 2 * g.monitorRoom + (rest.map fun v => v.category).sum ≤ W9) (hdg : decode c.code g.pc = .ok (.invokestatic index, 3))
    (hpre : ∀ vm₁, s.WarmedH vm₁ → Pre ⟨T.setVm vm₁, locs, cells, slots⟩ argsL.toArray) :
    ∃ (v : Option Value) (vm₁ : Vm) (B : Pt), s.WarmedH vm₁ ∧ Stand p l e R s m args below meth c B.U B.locs B.cells B.slots ∧ Post ⟨T.setVm vm₁, locs, cells, slots⟩ argsL.toArray v B ∧
      ∀ target, Steps p.tables e below (B.U.setTop { g with pc := g.pc + 3, stack := v.toList ++ rest }) target → Steps p.tables e below (T.setTop g) target := by
  obtain ⟨mk, methM, cM, hnamed, hmethM, -, -, -, -, -, -, hsigM⟩ := Cond.codeWith_spec hcode
  have hstatic : methM.isStatic = true := Cond.static_spec hnamed hmethM hstat
  obtain ⟨kP, hkP, -⟩ := className_of_methodNamed hnamed
  have hinitP : kP.init = .initialized := Cond.initialized_spec (findClass_of_methodNamed hnamed) hkP hinit
  obtain ⟨vm₁, X₁, hstep₁⟩ := X.invokestatic hexec hown hlink hnamed hmethM hstatic hkP hinitP hy (g := g) hg (argsL := argsL) (rest := rest) (hlen _ hsigM) hstack hdg
  obtain ⟨v, B, X', hpost, hsteps⟩ := hK m meth c ⟨T.setVm vm₁, locs, cells, slots⟩ { g with stack := rest } (.invokestatic index) mk argsL.toArray X₁ hg hsize hdg hW (X₁.named hnamed) (hpre vm₁ X₁.warmed)
  exact ⟨v, vm₁, B, X₁.warmed, X', hpost, fun target h => hstep₁ _ fun acts => by rw [doInvoke_state]; exact hsteps.trans h⟩
theorem vx_runSW {y : MethodName} {bytes cc : ByteArray} {maxL nL mc ms n index : Nat} {ret : Option FieldType} {hh : List (Nat × Nat × Nat × Nat)} {ws : List Cond} {rm : Room} {Pc : Array Value → State → Prop} {Qc : Array Value → State → Outcome → State → Prop} {free : Addr → Prop} {Ts : List Cond} {own : String} {As rest : List Value} {g : JFrame}
    (S : CallFix p m c cc nL s args Ts own) (hM : Met l y ws rm Pc Qc mc ms free) (cw : vx_CSW R s args own index y bytes maxL ret hh ws rm mc ms n) (hp : PreS s H Pc As)
    (hg : g.method = m) (hn : As.length = n) (hsize : g.locals.size = nL) (hstack : g.stack = As.reverse ++ rest) (hW : 2 * g.monitorRoom + (rest.map fun v => v.category).sum ≤ 8) (hdg : decode cc g.pc = .ok (.invokestatic index, 3)) (hf : cells + mc ≤ R.cells ∧ slots + ms ≤ R.slots) :
    va_Run p l e R s m args below meth c H locs cells slots mc ms g rest (Qc As.toArray) (free) := by
  obtain ⟨⟨hrc, hrs, hfr, hlo, hws, hcw⟩, hcode, hini, hy, hlen, hl, hstt⟩ := cw
  have hK : Back l R p e below s args y 3 8 (PreOf R mc ms Pc) (PostOf Qc mc ms free) := va_backW (hh := hh) (bytes := bytes) (maxL := maxL) (ret := ret) hM hp.1 hrc hrs hfr hlo hws hcw (fun a' U hW => word_at hW (Or.inl (by first | rfl | simp [Cond.onTables, Cond.keeps, Cond.steady])) hini)
  obtain ⟨hx, hb, hml, ho, -⟩ := S
  intro T hT X
  obtain ⟨v, vm₁, ⟨U', l2, c2, s2⟩, hW₁, X', ⟨g', mk, t, L, e1, e2, hq, h1, hL, h2, h3⟩, st⟩ := vx_callSW X hx (hh := hh) (bytes := bytes) (maxL := maxL) (ret := ret) ho hl hstt hini hcode hy hK hg (hsize.trans hml.symm) (argsL := As) (rest := rest) (fun sig h => hn.trans (hlen sig h)) hstack hW (by rw [hb]; exact hdg)
    (fun vm₁ hW₁ => ⟨hf.1, hf.2, hp.2 (T.setVm vm₁) hT hW₁⟩)
  dsimp only [Pt.U, Pt.locs, Pt.cells, Pt.slots] at X' e1 e2 h1 h2 h3 st
  subst h1; subst h2; subst h3
  exact ⟨v, (T.setVm vm₁).calling g' mk As.toArray, t, U', L, hT, X', hL, e1, e2, hq, st⟩
theorem vx_outP {p : Program} {l : Launch} {e : Env} {R : Room} {s : State} {m : MethodId} {args : Array Value} {below : List Frame} {meth : Method} {c : Code} {H : Heap} {locs : List Loc} {cells slots : Nat} {free : Addr → Prop} {ls : Array Slot} {rest : List Value} {Qc : Array Value → State → Outcome → State → Prop} {XC : String → State → State → Prop}
    {pc : Nat} {own E : String} {ce : Cell} {q : Addr} {mc ms : Nat} (hown : s.vm.findClass own = some m.cls) (hlocks : meth.locks = false)
    (hpass : ∀ z ∈ c.exceptionTable.toList, covers z pc = false ∨ (z.catchType ≠ 0 ∧ ∃ nm : String, (Cond.classLink own z.catchType nm).before args s = true ∧ va_Nc E nm s)) (hcell : H[q]? = some ce) (hv : ce.vm = .none) (hcl : s.vm.findClass E = some ce.cls)
    (hx : ∀ t : State, t.heap = H → s.vm.Alike t.vm → XC E s t) (hf : ∀ z ∈ locs, free z.base) (hc : cells ≤ mc) (hs : slots ≤ ms) :
    vx_W p l e R s m args below meth c H locs cells slots (vx_MQ below Qc XC args s mc ms free) (F0 m pc ls rest) q := by
  intro T hT X
  have hpl : e.platform.magicAccessors = ({} : Platform).magicAccessors := by rw [X.admits.platform]
  obtain ⟨vm', hW', X', st⟩ := X.outThrough hlocks q (g := F0 m pc ls rest) rfl rfl rfl (cell := ce) (by rw [hT]; exact hcell) (by rw [hv]; rfl)
    (by obtain ⟨k9, h9, -⟩ := Vm.findClass_spec hcl; exact ⟨k9, h9⟩) (fun z hz => by
      rcases hpass z hz with h | ⟨hz0, nm, hl1, hn1⟩
      · exact Or.inl h
      · obtain ⟨c6, hc6, hcl6⟩ := Cond.classLink_spec hown hl1 e.platform hpl
        obtain ⟨a8, b8, h1, h2, h3⟩ := hn1
        cases Option.some.inj (h1.symm.trans hcl)
        cases Option.some.inj (h2.symm.trans hc6)
        exact Or.inr ⟨hz0, _, hcl6, h3⟩)
  obtain ⟨g₀, hfr⟩ := X'.frames_eq
  have hcell9 : ((T.setVm vm').setFrames (.throwing q :: below)).heap[q]? = some ce := by
    show T.heap[q]? = some ce
    rw [hT]; exact hcell
  have hend : Ended ((T.setVm vm').setFrames (.throwing q :: below)) below (.threw q) := State.frames_setFrames _ (State.cur_lt_of_frames hfr)
  refine ⟨(T.setVm vm').setFrames (.throwing q :: below), ?_, .threw q, X'.here.running, hend, Or.inr ⟨q, rfl, E, ce, locs, hx _ hT (X'.ends _).1.alike, hcell9, hv, hcl, (X'.ends _).1, (X'.ends _).2.mono hc hs, hf⟩⟩
  rw [X.pushThrowing_eq]
  exact st
theorem vx_lt {D : va_G} {cl : List vw_C} {ws : va_W} {H1 : Heap} (h : va_P D cl ws H1) {k : Nat} {q : Nat × va_E} (hk : ws[k]? = some q) : q.1 < H1.size := (h k q hk).lt
end VXS
section VXH
section
variable {l : Launch} {R : Room} {p : Program} {e : Env} {below : List Frame} {s : State} {sargs : Array Value} {y : MethodName} {len W9 : Nat}
theorem vx_backW {ws : List Cond} {rm : Room} {Pc : Array Value → State → Prop} {Qc : Array Value → State → Outcome → State → Prop} {XC : String → State → State → Prop} {mc ms : Nat} {free : Addr → Prop} {bytes : ByteArray} {maxL : Nat} {ret : Option FieldType} {hh : List (Nat × Nat × Nat × Nat)}
    (hM : vx_Met l y ws rm Pc Qc XC mc ms free) (hblind : FrameBlind Pc) (hrc : rm.cells = mc) (hrs : rm.slots = ms)
    (hframes : rm.frames + 1 ≤ R.frames) (hlocals : W9 + (maxL + 11) + rm.locals ≤ R.locals)
    (hws : ∀ w ∈ ws, ∀ a' U, s.WarmedH U.vm → w.before a' U = true) (hcode : Cond.codeWith y bytes maxL ret hh ∈ ws) (hinit : ∀ a' U, s.WarmedH U.vm → (Cond.initialized y.cls).before a' U = true) :
    vx_Back l R p e below s sargs y len W9 (PreOf R mc ms Pc) (PostOf Qc mc ms free) (vx_Post XC mc ms free) := by
  intro m meth c A g ig mk a X hg hsize hdg hW hn hp
  have h1 : (headSpec ws rm).pre.before a A.U = true := atoms_intro fun w hw => hws w hw _ _ X.warmed
  have h2 : (Cond.codeWith y bytes maxL ret hh).before a A.U = true := hws _ hcode _ _ X.warmed
  have h3 : (Cond.initialized y.cls).before a A.U = true := hinit _ _ X.warmed
  have h4 : A.cells + (headSpec ws rm).room.cells ≤ R.cells := by rw [show (headSpec ws rm).room.cells = mc from hrc]; exact hp.1
  have h5 : A.slots + (headSpec ws rm).room.slots ≤ R.slots := by rw [show (headSpec ws rm).room.slots = ms from hrs]; exact hp.2.1
  have hPc : Pc a (A.U.calling g mk a) := hblind _ _ _ _ hp.2.2
  obtain ⟨U, Ls, c0, s0⟩ := A
  dsimp only [Pt.U, Pt.locs, Pt.cells, Pt.slots] at h1 h2 h3 h4 h5 X hn hPc ⊢
  obtain ⟨m9, methY, cY, hn9, hmY, hcY, -, hlY, -⟩ := Cond.codeWith_spec h2
  cases Option.some.inj (hn9.symm.trans hn)
  obtain ⟨kY, hkY, -⟩ := className_of_methodNamed hn
  have hinitY : kY.init = .initialized := Cond.initialized_spec (findClass_of_methodNamed hn) hkY h3
  have h : At U g.method c below := by rw [hg]; exact X.here
  have hlocals9 : W9 + (maxL + 11) + (headSpec ws rm).room.locals ≤ R.locals := hlocals
  have happ : (headSpec ws rm).appliesLoose y e.platform (U.calling g mk a) = true :=
    Spec.appliesLoose_calling (g := g) h hdg hn hkY hinitY
      (X.room_calling (g := g) (R' := (headSpec ws rm).room) hsize hmY hcY hframes (by rw [hlY]; omega) h4 h5) h1
  obtain ⟨mid, hmid⟩ := h.above
  have hfr : (U.setTop g).frames = (.java g :: mid) ++ below := by rw [State.frames_setTop' g h.top, hmid]; rfl
  obtain ⟨o, s₂, hsteps, -, hend, hq⟩ := Steps.callFree hM p X.admits X.cas X.clock (acts := []) hfr happ hPc trivial
  have hq' : vx_Q Qc XC mc ms free a (U.calling g mk a) o s₂ := hq
  rw [State.frames_setTop' g h.top] at hend
  obtain ⟨g₀, hg0⟩ := Option.isSome_iff_exists.mp h.top
  obtain ⟨r, hr⟩ := State.topJava?_eq_some.mp hg0
  have hr' : (({ U with heap := s₂.heap, slotsUsed := s₂.slotsUsed } : State).setVm s₂.vm).frames = .java g₀ :: r := hr
  rcases hq' with ⟨hqc, L, hfe, hL⟩ | ⟨q, rfl, E, ce, L, hx, hce, hcv, hcl, hW₂, hsm, hL⟩
  · obtain ⟨⟨v, rfl⟩, hW₂, e2, q2, q3, q4, q5, q6⟩ := id hfe
    have e3 : s₂ = ({ (U.calling g mk a).setFrames s₂.frames with heap := s₂.heap, slotsUsed := s₂.slotsUsed } : State).setVm s₂.vm := by
      have : s₂ = ({ s₂ with vm := (U.calling g mk a).vm } : State).setVm s₂.vm := rfl
      rw [e2] at this
      exact this
    obtain ⟨c₂, i₂, len₂, hc₂, hd₂, hf₂⟩ := hend
    have hW' : U.WarmedH s₂.vm := hW₂
    have hcc : c₂ = c := by
      have h1 : s₂.code? g.method = U.code? g.method := by
        rw [State.code?_eq, State.code?_eq, hW'.alike.method?]
      exact Option.some.inj (hc₂.symm.trans (h1.trans h.code))
    subst hcc
    have hlen : len₂ = len := by rw [hdg] at hd₂; cases hd₂; rfl
    subst hlen
    have hs₂ : s₂ = (({ U with heap := s₂.heap, slotsUsed := s₂.slotsUsed } : State).setVm s₂.vm).setTop { g with pc := g.pc + len₂, stack := v.toList ++ g.stack } := by
      refine e3.trans ?_
      rw [hf₂, State.calling_eq h.top, State.setFrames_setFrames, State.setTop_of_frames _ hr', hr]
      rfl
    have hsame : U.sameButNew ({ U with heap := s₂.heap, slotsUsed := s₂.slotsUsed } : State) L mc ms := by
      refine ⟨?_, q2, q3, q4, q5, q6⟩
      obtain ⟨t, ht, -⟩ := State.frames_cons hr
      show ({ U with heap := s₂.heap, slotsUsed := s₂.slotsUsed } : State) = { U.setFrames U.frames with heap := s₂.heap, slotsUsed := s₂.slotsUsed }
      rw [State.setFrames_self ht]
    subst hg
    refine Or.inl ⟨v, ⟨(({ U with heap := s₂.heap, slotsUsed := s₂.slotsUsed } : State).setVm s₂.vm), Ls ++ L, c0 + mc, s0 + ms⟩,
      ⟨X.admits, X.cas, X.clock, X.frames, X.room, X.hears, X.method, X.code, (X.here.setHeapUsed s₂.heap s₂.slotsUsed).setVm hW'.alike, X.tail, State.WarmedH.trans X.warmed hW', X.limits, X.bytes, X.same.trans (hsame.setVm s.vm)⟩,
      ⟨g, mk, s₂, L, rfl, rfl, hqc, rfl, hL, rfl, rfl⟩, ?_⟩
    show Steps p.tables e below _ ((({ U with heap := s₂.heap, slotsUsed := s₂.slotsUsed } : State).setVm s₂.vm).setTop { g with pc := g.pc + len₂, stack := v.toList ++ g.stack })
    rw [← hs₂]
    exact hsteps
  · obtain ⟨e2, q2, q3, q4, q5, q6⟩ := id hsm
    have e3 : s₂ = ({ (U.calling g mk a).setFrames s₂.frames with heap := s₂.heap, slotsUsed := s₂.slotsUsed } : State).setVm s₂.vm := by
      have : s₂ = ({ s₂ with vm := (U.calling g mk a).vm } : State).setVm s₂.vm := rfl
      rw [e2] at this
      exact this
    have hf₂ : s₂.frames = .throwing q :: .java g :: U.frames.tail := hend
    have hW' : U.WarmedH s₂.vm := hW₂
    have hs₂ : s₂ = ((({ U with heap := s₂.heap, slotsUsed := s₂.slotsUsed } : State).setVm s₂.vm).setTop g).pushFrame (.throwing q) := by
      refine e3.trans ?_
      rw [hf₂, State.calling_eq h.top, State.setFrames_setFrames, State.pushFrame, State.frames_setTop _ hr', State.setTop_of_frames _ hr', State.setFrames_setFrames, hr]
      rfl
    have hsame : U.sameButNew ({ U with heap := s₂.heap, slotsUsed := s₂.slotsUsed } : State) L mc ms := by
      refine ⟨?_, q2, q3, q4, q5, q6⟩
      obtain ⟨t, ht, -⟩ := State.frames_cons hr
      show ({ U with heap := s₂.heap, slotsUsed := s₂.slotsUsed } : State) = { U.setFrames U.frames with heap := s₂.heap, slotsUsed := s₂.slotsUsed }
      rw [State.setFrames_self ht]
    subst hg
    refine Or.inr ⟨q, ⟨(({ U with heap := s₂.heap, slotsUsed := s₂.slotsUsed } : State).setVm s₂.vm), Ls ++ L, c0 + mc, s0 + ms⟩,
      ⟨X.admits, X.cas, X.clock, X.frames, X.room, X.hears, X.method, X.code, (X.here.setHeapUsed s₂.heap s₂.slotsUsed).setVm hW'.alike, X.tail, State.WarmedH.trans X.warmed hW', X.limits, X.bytes, X.same.trans (hsame.setVm s.vm)⟩,
      ⟨g, mk, s₂, L, E, ce, rfl, rfl, hx, hce, hcv, hcl, rfl, hL, rfl, rfl⟩, ?_⟩
    show Steps p.tables e below _ (((({ U with heap := s₂.heap, slotsUsed := s₂.slotsUsed } : State).setVm s₂.vm).setTop g).pushFrame (.throwing q))
    rw [← hs₂]
    exact hsteps
end
variable {p : Program} {l : Launch} {e : Env} {R : Room} {s : State} {m : MethodId} {args : Array Value} {below : List Frame} {meth : Method} {c : Code} {T : State} {H : Heap} {locs : List Loc} {cells slots : Nat}
theorem vx_callVX (X : Stand p l e R s m args below meth c T locs cells slots) (hexec : p.tables.exec = Jvm.exec) {own C : String} {index : Nat} {y : MethodName} {bytes : ByteArray} {maxL : Nat} {ret : Option FieldType} {hh : List (Nat × Nat × Nat × Nat)}
    (hown : s.vm.findClass own = some m.cls) (hlink : (Cond.methodLink own index y).before args s = true) (hinst : (Cond.instanceMethod y).before args s = true) (hsel : (Cond.selects C y y).before args s = true)
    (hcode : (Cond.codeWith y bytes maxL ret hh).before args s = true) (hy : y.cls ≠ "java/lang/invoke/MethodHandle" ∧ y.cls ≠ "java/lang/invoke/VarHandle")
    {W9 : Nat} {Pre : Pt → Array Value → Prop} {Post : Pt → Array Value → Option Value → Pt → Prop} {PostX : Pt → Array Value → Addr → Pt → Prop} (hK : vx_Back l R p e below s args y 3 W9 Pre Post PostX)
    {b : Addr} {cellB : Cell} (hcell : T.heap[b]? = some cellB) (hobj : cellB.vm.isStatics = false) (hcls : s.vm.findClass C = some cellB.cls)
    {g : JFrame} (hg : g.method = m) (hsize : g.locals.size = c.maxLocals) {argsL rest : List Value} (hlen : ∀ sig, parseMethodDescriptor y.desc = some sig → argsL.length = sig.parameters.length)
    (hstack : g.stack = argsL.reverse ++ .ref b :: rest) (hW : 2 * g.monitorRoom + (rest.map fun v => v.category).sum ≤ W9) (hdg : decode c.code g.pc = .ok (.invokevirtual index, 3))
    (hpre : ∀ vm₁, s.WarmedH vm₁ → Pre ⟨T.setVm vm₁, locs, cells, slots⟩ (Value.ref b :: argsL).toArray) :
    (∃ (v : Option Value) (vm₁ : Vm) (B : Pt), s.WarmedH vm₁ ∧ Stand p l e R s m args below meth c B.U B.locs B.cells B.slots ∧ Post ⟨T.setVm vm₁, locs, cells, slots⟩ (Value.ref b :: argsL).toArray v B ∧
      ∀ target, Steps p.tables e below (B.U.setTop { g with pc := g.pc + 3, stack := v.toList ++ rest }) target → Steps p.tables e below (T.setTop g) target) ∨
    (∃ (q : Addr) (vm₁ : Vm) (B : Pt), s.WarmedH vm₁ ∧ Stand p l e R s m args below meth c B.U B.locs B.cells B.slots ∧ PostX ⟨T.setVm vm₁, locs, cells, slots⟩ (Value.ref b :: argsL).toArray q B ∧
      Steps p.tables e below (T.setTop g) ((B.U.setTop { g with stack := rest }).pushFrame (.throwing q))) := by
  obtain ⟨mk, methM, hnamed, hmethM, hstM, habM⟩ := Cond.instanceMethod_spec hinst
  obtain ⟨m8, methM', cM, hn8, hmethM', -, -, -, -, -, -, hsigM⟩ := Cond.codeWith_spec hcode
  cases Option.some.inj (hn8.symm.trans hnamed)
  cases hmethM.symm.trans hmethM'
  obtain ⟨c2, r2, m2, q1, q2, q3, q4, kP, hkP, hkPi⟩ := Cond.selects_spec hsel
  cases hcls.symm.trans q1
  cases (State.methodFound?_of_named hnamed hy).symm.trans q2
  cases hnamed.symm.trans q3
  have hselP : selectMethod e.platform s.vm cellB.cls mk = .method mk := by rw [Launch.admits_selectMethod X.admits]; exact q4
  obtain ⟨vm₁, X₁, hstep₁⟩ := X.invokevirtual hexec hown hlink hnamed hmethM hstM hkP hkPi hy (a := b) (cell := cellB) hcell
    (fun z h => by rw [h] at hobj; cases hobj) hselP hmethM habM hkP hkPi (g := g) hg (argsL := argsL) (rest := rest) (hlen _ hsigM) hstack hdg
  rcases hK m meth c ⟨T.setVm vm₁, locs, cells, slots⟩ { g with stack := rest } (.invokevirtual index) mk (Value.ref b :: argsL).toArray X₁ hg hsize hdg hW (X₁.named hnamed) (hpre vm₁ X₁.warmed) with ⟨v, B, X', hpost, hsteps⟩ | ⟨q, B, X', hpost, hsteps⟩
  · exact Or.inl ⟨v, vm₁, B, X₁.warmed, X', hpost, fun target h => hstep₁ _ fun acts => by rw [doInvoke_state]; exact hsteps.trans h⟩
  · exact Or.inr ⟨q, vm₁, B, X₁.warmed, X', hpost, hstep₁ _ fun acts => by rw [doInvoke_state]; exact hsteps⟩
theorem vx_callSX (X : Stand p l e R s m args below meth c T locs cells slots) (hexec : p.tables.exec = Jvm.exec) {own : String} {index : Nat} {y : MethodName} {bytes : ByteArray} {maxL : Nat} {ret : Option FieldType} {hh : List (Nat × Nat × Nat × Nat)}
    (hown : s.vm.findClass own = some m.cls) (hlink : (Cond.methodLink own index y).before args s = true) (hstat : (Cond.static y).before args s = true) (hinit : (Cond.initialized y.cls).before args s = true)
    (hcode : (Cond.codeWith y bytes maxL ret hh).before args s = true) (hy : y.cls ≠ "java/lang/invoke/MethodHandle" ∧ y.cls ≠ "java/lang/invoke/VarHandle")
    {W9 : Nat} {Pre : Pt → Array Value → Prop} {Post : Pt → Array Value → Option Value → Pt → Prop} {PostX : Pt → Array Value → Addr → Pt → Prop} (hK : vx_Back l R p e below s args y 3 W9 Pre Post PostX)
    {g : JFrame} (hg : g.method = m) (hsize : g.locals.size = c.maxLocals) {argsL rest : List Value} (hlen : ∀ sig, parseMethodDescriptor y.desc = some sig → argsL.length = sig.parameters.length)
    (hstack : g.stack = argsL.reverse ++ rest) (hW : 2 * g.monitorRoom + (rest.map fun v => v.category).sum ≤ W9) (hdg : decode c.code g.pc = .ok (.invokestatic index, 3))
    (hpre : ∀ vm₁, s.WarmedH vm₁ → Pre ⟨T.setVm vm₁, locs, cells, slots⟩ argsL.toArray) :
    (∃ (v : Option Value) (vm₁ : Vm) (B : Pt), s.WarmedH vm₁ ∧ Stand p l e R s m args below meth c B.U B.locs B.cells B.slots ∧ Post ⟨T.setVm vm₁, locs, cells, slots⟩ argsL.toArray v B ∧
      ∀ target, Steps p.tables e below (B.U.setTop { g with pc := g.pc + 3, stack := v.toList ++ rest }) target → Steps p.tables e below (T.setTop g) target) ∨
    (∃ (q : Addr) (vm₁ : Vm) (B : Pt), s.WarmedH vm₁ ∧ Stand p l e R s m args below meth c B.U B.locs B.cells B.slots ∧ PostX ⟨T.setVm vm₁, locs, cells, slots⟩ argsL.toArray q B ∧
      Steps p.tables e below (T.setTop g) ((B.U.setTop { g with stack := rest }).pushFrame (.throwing q))) := by
  obtain ⟨mk, methM, cM, hnamed, hmethM, -, -, -, -, -, -, hsigM⟩ := Cond.codeWith_spec hcode
  have hstatic : methM.isStatic = true := Cond.static_spec hnamed hmethM hstat
  obtain ⟨kP, hkP, -⟩ := className_of_methodNamed hnamed
  have hinitP : kP.init = .initialized := Cond.initialized_spec (findClass_of_methodNamed hnamed) hkP hinit
  obtain ⟨vm₁, X₁, hstep₁⟩ := X.invokestatic hexec hown hlink hnamed hmethM hstatic hkP hinitP hy (g := g) hg (argsL := argsL) (rest := rest) (hlen _ hsigM) hstack hdg
  rcases hK m meth c ⟨T.setVm vm₁, locs, cells, slots⟩ { g with stack := rest } (.invokestatic index) mk argsL.toArray X₁ hg hsize hdg hW (X₁.named hnamed) (hpre vm₁ X₁.warmed) with ⟨v, B, X', hpost, hsteps⟩ | ⟨q, B, X', hpost, hsteps⟩
  · exact Or.inl ⟨v, vm₁, B, X₁.warmed, X', hpost, fun target h => hstep₁ _ fun acts => by rw [doInvoke_state]; exact hsteps.trans h⟩
  · exact Or.inr ⟨q, vm₁, B, X₁.warmed, X', hpost, hstep₁ _ fun acts => by rw [doInvoke_state]; exact hsteps⟩
theorem vx_callVW (X : Stand p l e R s m args below meth c T locs cells slots) (hexec : p.tables.exec = Jvm.exec) {own C : String} {index : Nat} {y : MethodName} {bytes : ByteArray} {maxL : Nat} {ret : Option FieldType} {hh : List (Nat × Nat × Nat × Nat)}
    (hown : s.vm.findClass own = some m.cls) (hlink : (Cond.methodLink own index y).before args s = true) (hinst : (Cond.instanceMethod y).before args s = true) (hsel : (Cond.selects C y y).before args s = true)
    (hcode : (Cond.codeWith y bytes maxL ret hh).before args s = true) (hy : y.cls ≠ "java/lang/invoke/MethodHandle" ∧ y.cls ≠ "java/lang/invoke/VarHandle")
    {W9 : Nat} {Pre : Pt → Array Value → Prop} {Post : Pt → Array Value → Option Value → Pt → Prop} (hK : Back l R p e below s args y 3 W9 Pre Post)
    {b : Addr} {cellB : Cell} (hcell : T.heap[b]? = some cellB) (hobj : cellB.vm.isStatics = false) (hcls : s.vm.findClass C = some cellB.cls)
    {g : JFrame} (hg : g.method = m) (hsize : g.locals.size = c.maxLocals) {argsL rest : List Value} (hlen : ∀ sig, parseMethodDescriptor y.desc = some sig → argsL.length = sig.parameters.length)
    (hstack : g.stack = argsL.reverse ++ .ref b :: rest) (hW : 2 * g.monitorRoom + (rest.map fun v => v.category).sum ≤ W9) (hdg : decode c.code g.pc = .ok (.invokevirtual index, 3))
    (hpre : ∀ vm₁, s.WarmedH vm₁ → Pre ⟨T.setVm vm₁, locs, cells, slots⟩ (Value.ref b :: argsL).toArray) :
    ∃ (v : Option Value) (vm₁ : Vm) (B : Pt), s.WarmedH vm₁ ∧ Stand p l e R s m args below meth c B.U B.locs B.cells B.slots ∧ Post ⟨T.setVm vm₁, locs, cells, slots⟩ (Value.ref b :: argsL).toArray v B ∧
      ∀ target, Steps p.tables e below (B.U.setTop { g with pc := g.pc + 3, stack := v.toList ++ rest }) target → Steps p.tables e below (T.setTop g) target := by
  obtain ⟨mk, methM, hnamed, hmethM, hstM, habM⟩ := Cond.instanceMethod_spec hinst
  obtain ⟨m8, methM', cM, hn8, hmethM', -, -, -, -, -, -, hsigM⟩ := Cond.codeWith_spec hcode
  cases Option.some.inj (hn8.symm.trans hnamed)
  cases hmethM.symm.trans hmethM'
  obtain ⟨c2, r2, m2, q1, q2, q3, q4, kP, hkP, hkPi⟩ := Cond.selects_spec hsel
  cases hcls.symm.trans q1
  cases (State.methodFound?_of_named hnamed hy).symm.trans q2
  cases hnamed.symm.trans q3
  have hselP : selectMethod e.platform s.vm cellB.cls mk = .method mk := by rw [Launch.admits_selectMethod X.admits]; exact q4
  obtain ⟨vm₁, X₁, hstep₁⟩ := X.invokevirtual hexec hown hlink hnamed hmethM hstM hkP hkPi hy (a := b) (cell := cellB) hcell
    (fun z h => by rw [h] at hobj; cases hobj) hselP hmethM habM hkP hkPi (g := g) hg (argsL := argsL) (rest := rest) (hlen _ hsigM) hstack hdg
  obtain ⟨v, B, X', hpost, hsteps⟩ := hK m meth c ⟨T.setVm vm₁, locs, cells, slots⟩ { g with stack := rest } (.invokevirtual index) mk (Value.ref b :: argsL).toArray X₁ hg hsize hdg hW (X₁.named hnamed) (hpre vm₁ X₁.warmed)
  exact ⟨v, vm₁, B, X₁.warmed, X', hpost, fun target h => hstep₁ _ fun acts => by rw [doInvoke_state]; exact hsteps.trans h⟩
abbrev vx_CVW (R : Room) (s : State) (args : Array Value) (own C : String) (index : Nat) (y : MethodName) (bytes : ByteArray) (maxL : Nat) (ret : Option FieldType) (hh : List (Nat × Nat × Nat × Nat)) (ws : List Cond) (rm : Room) (mc ms n : Nat) : Prop :=
  (rm.cells = mc ∧ rm.slots = ms ∧ rm.frames + 1 ≤ R.frames ∧ 8 + (maxL + 11) + rm.locals ≤ R.locals ∧ (∀ w ∈ ws, ∀ (a' : Array Value) (U : State), s.WarmedH U.vm → w.before a' U = true) ∧ Cond.codeWith y bytes maxL ret hh ∈ ws) ∧
  (Cond.codeWith y bytes maxL ret hh).before args s = true ∧ (Cond.initialized y.cls).before args s = true ∧ (y.cls ≠ "java/lang/invoke/MethodHandle" ∧ y.cls ≠ "java/lang/invoke/VarHandle") ∧
  (∀ sig, parseMethodDescriptor y.desc = some sig → n = sig.parameters.length) ∧ (Cond.methodLink own index y).before args s = true ∧ (Cond.instanceMethod y).before args s = true ∧ (Cond.selects C y y).before args s = true
theorem vx_cwVW {own C : String} {index maxL mc ms : Nat} {y : MethodName} {bytes : ByteArray} {ret : Option FieldType} {hh : List (Nat × Nat × Nat × Nat)} {Ts ws ws' : List Cond} {rm : Room} (n : Nat) (ht : ∀ w ∈ Ts, w.before args s = true) (hT : GoodIn Ts (wsV own index C y ws)) (hw : ws = Cond.codeWith y bytes maxL ret hh :: ws') (hrc : rm.cells = mc) (hrs : rm.slots = ms)
    (hd : y.cls = C ∧ y.cls ≠ "java/lang/invoke/MethodHandle" ∧ y.cls ≠ "java/lang/invoke/VarHandle" ∧ (parseMethodDescriptor y.desc).map (fun d => d.parameters.length) = some n) (hR : rm.frames + 1 ≤ R.frames ∧ 8 + (maxL + 11) + rm.locals ≤ R.locals) :
    vx_CVW R s args own C index y bytes maxL ret hh ws rm mc ms n := by
  obtain ⟨hC, hd⟩ := hd
  subst hC
  have ok : ∀ w ∈ wsV own index y.cls y ws, w.before args s = true := fun w h => ht w (hT w h).1
  have hG : GoodIn Ts ws := fun w h => hT w (by unfold wsV; exact List.mem_append_right _ h)
  have hc : Cond.codeWith y bytes maxL ret hh ∈ ws := by rw [hw]; exact List.mem_cons_self
  refine ⟨⟨hrc, hrs, hR.1, hR.2, pay_in ht hG, hc⟩, ht _ (hG _ hc).1, ok _ (by simp [wsV]), ⟨hd.1, hd.2.1⟩, fun sig h => ?_, ok _ (by simp [wsV]), ok _ (by simp [wsV]), ok _ (by simp [wsV])⟩
  have h2 := hd.2.2
  rw [h] at h2
  exact (Option.some.inj h2).symm
theorem vx_runVW {y : MethodName} {bytes cc : ByteArray} {maxL nL mc ms n index : Nat} {ret : Option FieldType} {hh : List (Nat × Nat × Nat × Nat)} {ws : List Cond} {rm : Room} {Pc : Array Value → State → Prop} {Qc : Array Value → State → Outcome → State → Prop} {free : Addr → Prop} {Ts : List Cond} {own C : String} {b : Addr} {As rest : List Value} {g : JFrame}
    (S : CallFix p m c cc nL s args Ts own) (hM : Met l y ws rm Pc Qc mc ms free) (cw : vx_CVW R s args own C index y bytes maxL ret hh ws rm mc ms n) (hp : PreV s H C b Pc As)
    (hg : g.method = m) (hn : As.length = n) (hsize : g.locals.size = nL) (hstack : g.stack = As.reverse ++ .ref b :: rest) (hW : 2 * g.monitorRoom + (rest.map fun v => v.category).sum ≤ 8) (hdg : decode cc g.pc = .ok (.invokevirtual index, 3)) (hf : cells + mc ≤ R.cells ∧ slots + ms ≤ R.slots) :
    va_Run p l e R s m args below meth c H locs cells slots mc ms g rest (Qc (Value.ref b :: As).toArray) free := by
  obtain ⟨⟨hrc, hrs, hfr, hlo, hws, hcw⟩, hcode, hini, hy, hlen, hl, hin, hse⟩ := cw
  have hK : Back l R p e below s args y 3 8 (PreOf R mc ms Pc) (PostOf Qc mc ms free) := va_backW (hh := hh) (bytes := bytes) (maxL := maxL) (ret := ret) hM hp.1 hrc hrs hfr hlo hws hcw (fun a' U hW => word_at hW (Or.inl (by first | rfl | simp [Cond.onTables, Cond.keeps, Cond.steady])) hini)
  obtain ⟨hx, hb, hml, ho, -⟩ := S
  obtain ⟨-, ⟨cellB, hcB, hoB, hclB⟩, hPc⟩ := hp
  intro T hT X
  obtain ⟨v, vm₁, ⟨U', l2, c2, s2⟩, hW₁, X', ⟨g', mk, t, L, e1, e2, hq, h1, hL, h2, h3⟩, st⟩ := vx_callVW X hx (C := C) (hh := hh) (bytes := bytes) (maxL := maxL) (ret := ret) ho hl hin hse hcode hy hK (by rw [hT]; exact hcB) hoB hclB hg (hsize.trans hml.symm) (argsL := As) (rest := rest) (fun sig h => hn.trans (hlen sig h)) hstack hW (by rw [hb]; exact hdg)
    (fun vm₁ hW₁ => ⟨hf.1, hf.2, hPc (T.setVm vm₁) hT hW₁⟩)
  dsimp only [Pt.U, Pt.locs, Pt.cells, Pt.slots] at X' e1 e2 h1 h2 h3 st
  subst h1; subst h2; subst h3
  exact ⟨v, (T.setVm vm₁).calling g' mk (Value.ref b :: As).toArray, t, U', L, hT, X', hL, e1, e2, hq, st⟩
section
variable {y : MethodName} {bytes cc : ByteArray} {maxL nL mc ms n index : Nat} {ret : Option FieldType} {ws : List Cond} {rm : Room} {Pc : Array Value → State → Prop} {Qc : Array Value → State → Outcome → State → Prop} {XC : String → State → State → Prop} {free : Addr → Prop} {Ts : List Cond} {own C : String} {b : Addr} {As rest : List Value} {g : JFrame}
theorem vx_runVX {hh : List (Nat × Nat × Nat × Nat)} (S : CallFix p m c cc nL s args Ts own) (hM : vx_Met l y ws rm Pc Qc XC mc ms free) (cw : vx_CVW R s args own C index y bytes maxL ret hh ws rm mc ms n) (hp : PreV s H C b Pc As)
    (hg : g.method = m) (hn : As.length = n) (hsize : g.locals.size = nL) (hstack : g.stack = As.reverse ++ .ref b :: rest) (hW : 2 * g.monitorRoom + (rest.map fun v => v.category).sum ≤ 8) (hdg : decode cc g.pc = .ok (.invokevirtual index, 3)) (hf : cells + mc ≤ R.cells ∧ slots + ms ≤ R.slots) :
    vx_Run p l e R s m args below meth c H locs cells slots mc ms g rest (Qc (Value.ref b :: As).toArray) XC free := by
  obtain ⟨⟨hrc, hrs, hfr, hlo, hws, hcw⟩, hcode, hini, hy, hlen, hl, hin, hse⟩ := cw
  have hK : vx_Back l R p e below s args y 3 8 (PreOf R mc ms Pc) (PostOf Qc mc ms free) (vx_Post XC mc ms free) := vx_backW (hh := hh) (bytes := bytes) (maxL := maxL) (ret := ret) hM hp.1 hrc hrs hfr hlo hws hcw (fun a' U hW => word_at hW (Or.inl (by first | rfl | simp [Cond.onTables, Cond.keeps, Cond.steady])) hini)
  obtain ⟨hx, hb, hml, ho, -⟩ := S
  obtain ⟨-, ⟨cellB, hcB, hoB, hclB⟩, hPc⟩ := hp
  intro T hT X
  rcases vx_callVX X hx (C := C) (hh := hh) (bytes := bytes) (maxL := maxL) (ret := ret) ho hl hin hse hcode hy hK (by rw [hT]; exact hcB) hoB hclB hg (hsize.trans hml.symm) (argsL := As) (rest := rest) (fun sig h => hn.trans (hlen sig h)) hstack hW (by rw [hb]; exact hdg)
    (fun vm₁ hW₁ => ⟨hf.1, hf.2, hPc (T.setVm vm₁) hT hW₁⟩) with ⟨v, vm₁, ⟨U', l2, c2, s2⟩, hW₁, X', ⟨g', mk, t, L, e1, e2, hq, h1, hL, h2, h3⟩, st⟩ | ⟨q, vm₁, ⟨U', l2, c2, s2⟩, hW₁, X', ⟨g', mk, t, L, E, ce, e1, e2, hq, hce, hcv, hcl, h1, hL, h2, h3⟩, st⟩
  · dsimp only [Pt.U, Pt.locs, Pt.cells, Pt.slots] at X' e1 e2 h1 h2 h3 st
    subst h1; subst h2; subst h3
    exact Or.inl ⟨v, (T.setVm vm₁).calling g' mk (Value.ref b :: As).toArray, t, U', L, hT, X', hL, e1, e2, hq, st⟩
  · dsimp only [Pt.U, Pt.locs, Pt.cells, Pt.slots] at X' e1 e2 h1 h2 h3 st hcl
    subst h1; subst h2; subst h3
    exact Or.inr ⟨q, (T.setVm vm₁).calling g' mk (Value.ref b :: As).toArray, t, U', L, E, ce, hT, X', hL, e1, e2, hq, hce, hcv, vx_cls hW₁ hcl, st⟩
theorem vx_runSX {hh : List (Nat × Nat × Nat × Nat)} (S : CallFix p m c cc nL s args Ts own) (hM : vx_Met l y ws rm Pc Qc XC mc ms free) (cw : vx_CSW R s args own index y bytes maxL ret hh ws rm mc ms n) (hp : PreS s H Pc As)
    (hg : g.method = m) (hn : As.length = n) (hsize : g.locals.size = nL) (hstack : g.stack = As.reverse ++ rest) (hW : 2 * g.monitorRoom + (rest.map fun v => v.category).sum ≤ 8) (hdg : decode cc g.pc = .ok (.invokestatic index, 3)) (hf : cells + mc ≤ R.cells ∧ slots + ms ≤ R.slots) :
    vx_Run p l e R s m args below meth c H locs cells slots mc ms g rest (Qc As.toArray) XC free := by
  obtain ⟨⟨hrc, hrs, hfr, hlo, hws, hcw⟩, hcode, hini, hy, hlen, hl, hstt⟩ := cw
  have hK : vx_Back l R p e below s args y 3 8 (PreOf R mc ms Pc) (PostOf Qc mc ms free) (vx_Post XC mc ms free) := vx_backW (hh := hh) (bytes := bytes) (maxL := maxL) (ret := ret) hM hp.1 hrc hrs hfr hlo hws hcw (fun a' U hW => word_at hW (Or.inl (by first | rfl | simp [Cond.onTables, Cond.keeps, Cond.steady])) hini)
  obtain ⟨hx, hb, hml, ho, -⟩ := S
  intro T hT X
  rcases vx_callSX X hx (hh := hh) (bytes := bytes) (maxL := maxL) (ret := ret) ho hl hstt hini hcode hy hK hg (hsize.trans hml.symm) (argsL := As) (rest := rest) (fun sig h => hn.trans (hlen sig h)) hstack hW (by rw [hb]; exact hdg)
    (fun vm₁ hW₁ => ⟨hf.1, hf.2, hp.2 (T.setVm vm₁) hT hW₁⟩) with ⟨v, vm₁, ⟨U', l2, c2, s2⟩, hW₁, X', ⟨g', mk, t, L, e1, e2, hq, h1, hL, h2, h3⟩, st⟩ | ⟨q, vm₁, ⟨U', l2, c2, s2⟩, hW₁, X', ⟨g', mk, t, L, E, ce, e1, e2, hq, hce, hcv, hcl, h1, hL, h2, h3⟩, st⟩
  · dsimp only [Pt.U, Pt.locs, Pt.cells, Pt.slots] at X' e1 e2 h1 h2 h3 st
    subst h1; subst h2; subst h3
    exact Or.inl ⟨v, (T.setVm vm₁).calling g' mk As.toArray, t, U', L, hT, X', hL, e1, e2, hq, st⟩
  · dsimp only [Pt.U, Pt.locs, Pt.cells, Pt.slots] at X' e1 e2 h1 h2 h3 st hcl
    subst h1; subst h2; subst h3
    exact Or.inr ⟨q, (T.setVm vm₁).calling g' mk As.toArray, t, U', L, E, ce, hT, X', hL, e1, e2, hq, hce, hcv, vx_cls hW₁ hcl, st⟩
end
end VXH
theorem vx_ofWH {l : Launch} {y : MethodName} {ws ws' : List Cond} {rm : Room} {Pc : Array Value → State → Prop} {Qc : Array Value → State → Outcome → State → Prop} {XC : String → State → State → Prop} {mc ms : Nat} {free : Addr → Prop} {cc : ByteArray} {maxL : Nat} {ret : Option FieldType} {hh : List (Nat × Nat × Nat × Nat)}
    (hy : plainName y.cls = true) (hw : ws = Cond.codeWith y cc maxL ret hh :: ws')
    (body : ∀ p e s m args below meth c s₁, BodyLoose p l y (headSpec ws rm) cc maxL ret e s m args below meth c s₁ → c.maxLocals = maxL → Pc args s →
      W p l e (headSpec ws rm).room s m args below meth c s.heap [] 0 0 (vx_MQ below Qc XC args s mc ms free) (entryFrame m args maxL)) : vx_Met l y ws rm Pc Qc XC mc ms free := by
  refine MetFree.of_bodyS (code := cc) (maxLocals := maxL) (ret := ret) hy ?_ ?_
  · intro args s m h hn
    obtain ⟨m9, meth, c, hn9, h1, h2, h3, h4, -, h5, h6, -⟩ := Cond.codeWith_spec (atoms_spec (ws := ws) h _ (by rw [hw]; exact List.mem_cons_self))
    cases hn.symm.trans hn9
    exact ⟨meth, c, h1, h2, h3, h4, h5, h6⟩
  · intro p e s m args below meth c s₁ B hml hP _
    have hh0 : s₁.heap = s.heap := by rw [B.state]; rfl
    obtain ⟨t, a1, o, b1, b2, b3⟩ := body p e s m args below meth c s₁ B hml hP s₁ hh0 (Stand.of_body B)
    exact ⟨t, o, a1, b1, b2, b3⟩
end
section
def RX0 : String := "CallJoin$Calls"
def TX0 : u_T := fun k => match k with
  | 0 => ("CallJoin$Calls", "size", "I", false)
  | 1 => ("CallJoin$Calls", "line", "[I", true)
  | 2 => ("CallJoin$Calls", "kind", "[I", true)
  | 3 => ("CallJoin$Calls", "point", "[I", true)
  | 4 => ("CallJoin$Calls", "words", "[I", true)
  | 5 => ("CallJoin$Calls", "road", "[I", true)
  | 6 => ("CallJoin$Calls", "time", "[I", true)
  | 7 => ("CallJoin$Calls", "event", "[I", true)
  | 8 => ("CallJoin$Calls", "reason", "[I", true)
  | 9 => ("CallJoin$Calls", "how", "[I", true)
  | _ => ("CallJoin$Calls", "marks", "[I", true)
def tyX0 : Nat → FieldType := fun k => match k with
  | 0 => .int
  | 1 => .array .int
  | 2 => .array .int
  | 3 => .array .int
  | 4 => .array .int
  | 5 => .array .int
  | 6 => .array .int
  | 7 => .array .int
  | 8 => .array .int
  | 9 => .array .int
  | _ => .array .int
theorem nmX0 : ∀ a, a < 11 → ∀ b, b < 11 → a ≠ b → (TX0 a).2.1 ≠ (TX0 b).2.1 := by decide +kernel
theorem tyX0_ok : ∀ k, k < 11 → parseFieldDescriptor (TX0 k).2.2.1 = some (tyX0 k) := by decide +kernel
set_option maxRecDepth 20000 in
theorem inX0 : ∀ w ∈ u_ws RX0 TX0 11, w ∈ lw_tbl := by decide +kernel
abbrev cX0_init : ByteArray := prog_2_method_1_code
def yX0_init : MethodName := ⟨RX0, "<init>", "()V"⟩
abbrev cX0_draft : ByteArray := prog_2_method_2_code
def yX0_draft : MethodName := ⟨RX0, "draft", "(IIIIII)I"⟩
abbrev cX0_latestTime : ByteArray := prog_2_method_3_code
def yX0_latestTime : MethodName := ⟨RX0, "latestTime", "()I"⟩
abbrev cX0_isHoax : ByteArray := prog_2_method_4_code
def yX0_isHoax : MethodName := ⟨RX0, "isHoax", "(I)Z"⟩
abbrev cX0_moveBranch : ByteArray := prog_2_method_5_code
def yX0_moveBranch : MethodName := ⟨RX0, "moveBranch", "(II)V"⟩
abbrev cX0_isUnder : ByteArray := prog_2_method_6_code
def yX0_isUnder : MethodName := ⟨RX0, "isUnder", "(II)Z"⟩
abbrev cX0_moveAll : ByteArray := prog_2_method_7_code
def yX0_moveAll : MethodName := ⟨RX0, "moveAll", "(II)V"⟩
abbrev cX0_countIn : ByteArray := prog_2_method_8_code
def yX0_countIn : MethodName := ⟨RX0, "countIn", "(I)I"⟩
abbrev cX0_memberOf : ByteArray := prog_2_method_9_code
def yX0_memberOf : MethodName := ⟨RX0, "memberOf", "(II)I"⟩
abbrev cX0_weighEvent : ByteArray := prog_2_method_10_code
def yX0_weighEvent : MethodName := ⟨RX0, "weighEvent", "(I)I"⟩
abbrev cX0_weighCall : ByteArray := prog_2_method_11_code
def yX0_weighCall : MethodName := ⟨RX0, "weighCall", "(I)I"⟩
abbrev cX0_pointOf : ByteArray := prog_2_method_12_code
def yX0_pointOf : MethodName := ⟨RX0, "pointOf", "(I)I"⟩
abbrev cX0_latestTimeOf : ByteArray := prog_2_method_13_code
def yX0_latestTimeOf : MethodName := ⟨RX0, "latestTimeOf", "(I)I"⟩
abbrev cX0_countHoaxes : ByteArray := prog_2_method_14_code
def yX0_countHoaxes : MethodName := ⟨RX0, "countHoaxes", "()I"⟩
def RX1 : String := "CallJoin$Events"
def TX1 : u_T := fun k => match k with
  | 0 => ("CallJoin$Events", "size", "I", false)
  | 1 => ("CallJoin$Events", "state", "[I", true)
  | 2 => ("CallJoin$Events", "kind", "[I", true)
  | 3 => ("CallJoin$Events", "first", "[I", true)
  | 4 => ("CallJoin$Events", "road", "[I", true)
  | 5 => ("CallJoin$Events", "from", "[I", true)
  | _ => ("CallJoin$Events", "to", "[I", true)
def tyX1 : Nat → FieldType := fun k => match k with
  | 0 => .int
  | 1 => .array .int
  | 2 => .array .int
  | 3 => .array .int
  | 4 => .array .int
  | 5 => .array .int
  | _ => .array .int
theorem nmX1 : ∀ a, a < 7 → ∀ b, b < 7 → a ≠ b → (TX1 a).2.1 ≠ (TX1 b).2.1 := by decide +kernel
theorem tyX1_ok : ∀ k, k < 7 → parseFieldDescriptor (TX1 k).2.2.1 = some (tyX1 k) := by decide +kernel
set_option maxRecDepth 20000 in
theorem inX1 : ∀ w ∈ u_ws RX1 TX1 7, w ∈ lw_tbl := by decide +kernel
abbrev cX1_init : ByteArray := prog_3_method_1_code
def yX1_init : MethodName := ⟨RX1, "<init>", "()V"⟩
abbrev cX1_begin : ByteArray := prog_3_method_2_code
def yX1_begin : MethodName := ⟨RX1, "begin", "(II)I"⟩
abbrev cX1_isWatchedFor : ByteArray := prog_3_method_3_code
def yX1_isWatchedFor : MethodName := ⟨RX1, "isWatchedFor", "(II)Z"⟩
abbrev cX1_countOpen : ByteArray := prog_3_method_4_code
def yX1_countOpen : MethodName := ⟨RX1, "countOpen", "()I"⟩
def RX2 : String := "CallJoin$Roads"
def TX2 : u_T := fun k => match k with
  | 0 => ("CallJoin$Roads", "size", "[I", true)
  | _ => ("CallJoin$Roads", "points", "[I", true)
def tyX2 : Nat → FieldType := fun k => match k with
  | 0 => .array .int
  | _ => .array .int
theorem nmX2 : ∀ a, a < 2 → ∀ b, b < 2 → a ≠ b → (TX2 a).2.1 ≠ (TX2 b).2.1 := by decide +kernel
theorem tyX2_ok : ∀ k, k < 2 → parseFieldDescriptor (TX2 k).2.2.1 = some (tyX2 k) := by decide +kernel
set_option maxRecDepth 20000 in
theorem inX2 : ∀ w ∈ u_ws RX2 TX2 2, w ∈ lw_tbl := by decide +kernel
abbrev cX2_init : ByteArray := prog_4_method_1_code
def yX2_init : MethodName := ⟨RX2, "<init>", "()V"⟩
abbrev cX2_append : ByteArray := prog_4_method_2_code
def yX2_append : MethodName := ⟨RX2, "append", "(II)I"⟩
abbrev cX2_isNear : ByteArray := prog_4_method_3_code
def yX2_isNear : MethodName := ⟨RX2, "isNear", "(IIII)Z"⟩
abbrev cX2_isNearPiece : ByteArray := prog_4_method_4_code
def yX2_isNearPiece : MethodName := ⟨RX2, "isNearPiece", "(III)Z"⟩
def RX3 : String := "CallJoin$Rules"
def TX3 : u_T := fun k => match k with
  | 0 => ("CallJoin$Rules", "distance", "[I", true)
  | 1 => ("CallJoin$Rules", "span", "[I", true)
  | 2 => ("CallJoin$Rules", "needOver", "[I", true)
  | 3 => ("CallJoin$Rules", "needUnder", "[I", true)
  | _ => ("CallJoin$Rules", "weights", "[I", true)
def tyX3 : Nat → FieldType := fun k => match k with
  | 0 => .array .int
  | 1 => .array .int
  | 2 => .array .int
  | 3 => .array .int
  | _ => .array .int
theorem nmX3 : ∀ a, a < 5 → ∀ b, b < 5 → a ≠ b → (TX3 a).2.1 ≠ (TX3 b).2.1 := by decide +kernel
theorem tyX3_ok : ∀ k, k < 5 → parseFieldDescriptor (TX3 k).2.2.1 = some (tyX3 k) := by decide +kernel
set_option maxRecDepth 20000 in
theorem inX3 : ∀ w ∈ u_ws RX3 TX3 5, w ∈ lw_tbl := by decide +kernel
abbrev cX3_init : ByteArray := prog_5_method_1_code
def yX3_init : MethodName := ⟨RX3, "<init>", "()V"⟩
abbrev cX3_weigh : ByteArray := prog_5_method_2_code
def yX3_weigh : MethodName := ⟨RX3, "weigh", "(II)I"⟩
abbrev cX3_meetsNeed : ByteArray := prog_5_method_3_code
def yX3_meetsNeed : MethodName := ⟨RX3, "meetsNeed", "(III)Z"⟩
def RX4 : String := "CallJoin"
def TX4 : u_T := fun k => match k with
  | 0 => ("CallJoin", "rules", "LCallJoin$Rules;", true)
  | 1 => ("CallJoin", "roads", "LCallJoin$Roads;", true)
  | 2 => ("CallJoin", "calls", "LCallJoin$Calls;", true)
  | _ => ("CallJoin", "events", "LCallJoin$Events;", true)
def tyX4 : Nat → FieldType := fun k => match k with
  | 0 => .object "CallJoin$Rules"
  | 1 => .object "CallJoin$Roads"
  | 2 => .object "CallJoin$Calls"
  | _ => .object "CallJoin$Events"
theorem nmX4 : ∀ a, a < 4 → ∀ b, b < 4 → a ≠ b → (TX4 a).2.1 ≠ (TX4 b).2.1 := by decide +kernel
theorem tyX4_ok : ∀ k, k < 4 → parseFieldDescriptor (TX4 k).2.2.1 = some (tyX4 k) := by decide +kernel
set_option maxRecDepth 20000 in
theorem inX4 : ∀ w ∈ u_ws RX4 TX4 4, w ∈ lw_tbl := by decide +kernel
abbrev cX4_init : ByteArray := prog_1_method_1_code
def yX4_init : MethodName := ⟨RX4, "<init>", "()V"⟩
abbrev cX4_rule : ByteArray := prog_1_method_2_code
def yX4_rule : MethodName := ⟨RX4, "rule", "(IIIII)V"⟩
abbrev cX4_weight : ByteArray := prog_1_method_3_code
def yX4_weight : MethodName := ⟨RX4, "weight", "(III)V"⟩
abbrev cX4_point : ByteArray := prog_1_method_4_code
def yX4_point : MethodName := ⟨RX4, "point", "(II)I"⟩
abbrev cX4_call : ByteArray := prog_1_method_5_code
def yX4_call : MethodName := ⟨RX4, "call", "(IIIIII)I"⟩
abbrev cX4_reasonFor : ByteArray := prog_1_method_6_code
def yX4_reasonFor : MethodName := ⟨RX4, "reasonFor", "(IIIIII)I"⟩
abbrev cX4_mark : ByteArray := prog_1_method_7_code
def yX4_mark : MethodName := ⟨RX4, "mark", "(II)V"⟩
abbrev cX4_split : ByteArray := prog_1_method_8_code
def yX4_split : MethodName := ⟨RX4, "split", "(I)I"⟩
abbrev cX4_merge : ByteArray := prog_1_method_9_code
def yX4_merge : MethodName := ⟨RX4, "merge", "(II)I"⟩
abbrev cX4_watch : ByteArray := prog_1_method_10_code
def yX4_watch : MethodName := ⟨RX4, "watch", "(IIII)V"⟩
abbrev cX4_state : ByteArray := prog_1_method_11_code
def yX4_state : MethodName := ⟨RX4, "state", "(II)V"⟩
abbrev cX4_share : ByteArray := prog_1_method_12_code
def yX4_share : MethodName := ⟨RX4, "share", "(II)I"⟩
abbrev cX4_agree : ByteArray := prog_1_method_13_code
def yX4_agree : MethodName := ⟨RX4, "agree", "(II)I"⟩
abbrev cX4_callAt : ByteArray := prog_1_method_14_code
def yX4_callAt : MethodName := ⟨RX4, "callAt", "(II)I"⟩
abbrev cX4_eventAt : ByteArray := prog_1_method_15_code
def yX4_eventAt : MethodName := ⟨RX4, "eventAt", "(II)I"⟩
abbrev cX4_member : ByteArray := prog_1_method_16_code
def yX4_member : MethodName := ⟨RX4, "member", "(II)I"⟩
abbrev cX4_count : ByteArray := prog_1_method_17_code
def yX4_count : MethodName := ⟨RX4, "count", "(I)I"⟩
abbrev cX4_isBelow : ByteArray := prog_1_method_18_code
def yX4_isBelow : MethodName := ⟨RX4, "isBelow", "(II)Z"⟩
abbrev cX4_needKnown : ByteArray := prog_1_method_19_code
def yX4_needKnown : MethodName := ⟨RX4, "needKnown", "(Z)V"⟩
abbrev cX4_needRange : ByteArray := prog_1_method_20_code
def yX4_needRange : MethodName := ⟨RX4, "needRange", "(Z)V"⟩
abbrev cX4_needState : ByteArray := prog_1_method_21_code
def yX4_needState : MethodName := ⟨RX4, "needState", "(Z)V"⟩
abbrev cX4_needRoom : ByteArray := prog_1_method_22_code
def yX4_needRoom : MethodName := ⟨RX4, "needRoom", "(Z)V"⟩
abbrev cX4_needCallData : ByteArray := prog_1_method_23_code
def yX4_needCallData : MethodName := ⟨RX4, "needCallData", "(IIIII)V"⟩
abbrev cX4_needTwoCalls : ByteArray := prog_1_method_24_code
def yX4_needTwoCalls : MethodName := ⟨RX4, "needTwoCalls", "(II)V"⟩
abbrev cX4_isInOpenEvent : ByteArray := prog_1_method_25_code
def yX4_isInOpenEvent : MethodName := ⟨RX4, "isInOpenEvent", "(I)Z"⟩
abbrev cX4_canBeReason : ByteArray := prog_1_method_26_code
def yX4_canBeReason : MethodName := ⟨RX4, "canBeReason", "(I)Z"⟩
abbrev cX4_seekReason : ByteArray := prog_1_method_27_code
def yX4_seekReason : MethodName := ⟨RX4, "seekReason", "(I)V"⟩
abbrev cX4_takeReason : ByteArray := prog_1_method_28_code
def yX4_takeReason : MethodName := ⟨RX4, "takeReason", "(III)Z"⟩
abbrev cX4_latestOfLine : ByteArray := prog_1_method_29_code
def yX4_latestOfLine : MethodName := ⟨RX4, "latestOfLine", "(I)I"⟩
abbrev cX4_firstOnStretch : ByteArray := prog_1_method_30_code
def yX4_firstOnStretch : MethodName := ⟨RX4, "firstOnStretch", "(I)I"⟩
abbrev cX4_isOnStretch : ByteArray := prog_1_method_31_code
def yX4_isOnStretch : MethodName := ⟨RX4, "isOnStretch", "(II)Z"⟩
abbrev cX4_nearestByPlace : ByteArray := prog_1_method_32_code
def yX4_nearestByPlace : MethodName := ⟨RX4, "nearestByPlace", "(I)I"⟩
abbrev cX4_greatestShare : ByteArray := prog_1_method_33_code
def yX4_greatestShare : MethodName := ⟨RX4, "greatestShare", "(I)I"⟩
abbrev cX4_isCandidate : ByteArray := prog_1_method_34_code
def yX4_isCandidate : MethodName := ⟨RX4, "isCandidate", "(II)Z"⟩
abbrev cX4_agreement : ByteArray := prog_1_method_35_code
def yX4_agreement : MethodName := ⟨RX4, "agreement", "(II)I"⟩
abbrev cX4_isWithinSpan : ByteArray := prog_1_method_36_code
def yX4_isWithinSpan : MethodName := ⟨RX4, "isWithinSpan", "(II)Z"⟩
abbrev cX4_eastOf : ByteArray := prog_1_method_37_code
def yX4_eastOf : MethodName := ⟨RX4, "eastOf", "(I)I"⟩
abbrev cX4_northOf : ByteArray := prog_1_method_38_code
def yX4_northOf : MethodName := ⟨RX4, "northOf", "(I)I"⟩
abbrev cX4_squareBetween : ByteArray := prog_1_method_39_code
def yX4_squareBetween : MethodName := ⟨RX4, "squareBetween", "(II)J"⟩
def RX6 : String := "CallJoinModel"
def TX6 : u_T := fun k => match k with
  | 0 => ("CallJoinModel", "thrown", "I", false)
  | 1 => ("CallJoinModel", "distance", "[I", true)
  | 2 => ("CallJoinModel", "span", "[I", true)
  | 3 => ("CallJoinModel", "over", "[I", true)
  | 4 => ("CallJoinModel", "under", "[I", true)
  | 5 => ("CallJoinModel", "weights", "[I", true)
  | 6 => ("CallJoinModel", "pointCount", "[I", true)
  | 7 => ("CallJoinModel", "points", "[I", true)
  | 8 => ("CallJoinModel", "calls", "I", false)
  | 9 => ("CallJoinModel", "events", "I", false)
  | 10 => ("CallJoinModel", "lineOf", "[I", true)
  | 11 => ("CallJoinModel", "kindOf", "[I", true)
  | 12 => ("CallJoinModel", "pointOf", "[I", true)
  | 13 => ("CallJoinModel", "wordsOf", "[I", true)
  | 14 => ("CallJoinModel", "timeOf", "[I", true)
  | 15 => ("CallJoinModel", "eventOf", "[I", true)
  | 16 => ("CallJoinModel", "reasonOf", "[I", true)
  | 17 => ("CallJoinModel", "marksOf", "[I", true)
  | 18 => ("CallJoinModel", "howOf", "[I", true)
  | 19 => ("CallJoinModel", "stateOf", "[I", true)
  | 20 => ("CallJoinModel", "watched", "[I", true)
  | 21 => ("CallJoinModel", "watchedFrom", "[I", true)
  | 22 => ("CallJoinModel", "watchedTo", "[I", true)
  | _ => ("CallJoinModel", "how", "I", false)
def tyX6 : Nat → FieldType := fun k => match k with
  | 0 => .int
  | 1 => .array .int
  | 2 => .array .int
  | 3 => .array .int
  | 4 => .array .int
  | 5 => .array .int
  | 6 => .array .int
  | 7 => .array .int
  | 8 => .int
  | 9 => .int
  | 10 => .array .int
  | 11 => .array .int
  | 12 => .array .int
  | 13 => .array .int
  | 14 => .array .int
  | 15 => .array .int
  | 16 => .array .int
  | 17 => .array .int
  | 18 => .array .int
  | 19 => .array .int
  | 20 => .array .int
  | 21 => .array .int
  | 22 => .array .int
  | _ => .int
theorem nmX6 : ∀ a, a < 24 → ∀ b, b < 24 → a ≠ b → (TX6 a).2.1 ≠ (TX6 b).2.1 := by decide +kernel
theorem tyX6_ok : ∀ k, k < 24 → parseFieldDescriptor (TX6 k).2.2.1 = some (tyX6 k) := by decide +kernel
set_option maxRecDepth 20000 in
theorem inX6 : ∀ w ∈ u_ws RX6 TX6 24, w ∈ lw_tbl := by decide +kernel
abbrev cX6_init : ByteArray := prog_7_method_1_code
def yX6_init : MethodName := ⟨RX6, "<init>", "()V"⟩
abbrev cX6_thrown : ByteArray := prog_7_method_2_code
def yX6_thrown : MethodName := ⟨RX6, "thrown", "()I"⟩
abbrev cX6_throwing : ByteArray := prog_7_method_3_code
def yX6_throwing : MethodName := ⟨RX6, "throwing", "(ZZZ)Z"⟩
abbrev cX6_in : ByteArray := prog_7_method_4_code
def yX6_in : MethodName := ⟨RX6, "in", "(III)Z"⟩
abbrev cX6_isKind : ByteArray := prog_7_method_5_code
def yX6_isKind : MethodName := ⟨RX6, "isKind", "(I)Z"⟩
abbrev cX6_isRoad : ByteArray := prog_7_method_6_code
def yX6_isRoad : MethodName := ⟨RX6, "isRoad", "(I)Z"⟩
abbrev cX6_isCall : ByteArray := prog_7_method_7_code
def yX6_isCall : MethodName := ⟨RX6, "isCall", "(I)Z"⟩
abbrev cX6_isEvent : ByteArray := prog_7_method_8_code
def yX6_isEvent : MethodName := ⟨RX6, "isEvent", "(I)Z"⟩
abbrev cX6_isPoint : ByteArray := prog_7_method_9_code
def yX6_isPoint : MethodName := ⟨RX6, "isPoint", "(I)Z"⟩
abbrev cX6_rule : ByteArray := prog_7_method_10_code
def yX6_rule : MethodName := ⟨RX6, "rule", "(IIIII)V"⟩
abbrev cX6_weight : ByteArray := prog_7_method_11_code
def yX6_weight : MethodName := ⟨RX6, "weight", "(III)V"⟩
abbrev cX6_point : ByteArray := prog_7_method_12_code
def yX6_point : MethodName := ⟨RX6, "point", "(II)I"⟩
abbrev cX6_squareOf : ByteArray := prog_7_method_13_code
def yX6_squareOf : MethodName := ⟨RX6, "squareOf", "(II)J"⟩
abbrev cX6_sum : ByteArray := prog_7_method_14_code
def yX6_sum : MethodName := ⟨RX6, "sum", "(II)I"⟩
abbrev cX6_isEnough : ByteArray := prog_7_method_15_code
def yX6_isEnough : MethodName := ⟨RX6, "isEnough", "(III)Z"⟩
abbrev cX6_meets : ByteArray := prog_7_method_16_code
def yX6_meets : MethodName := ⟨RX6, "meets", "(IIIII)I"⟩
abbrev cX6_isOpen : ByteArray := prog_7_method_17_code
def yX6_isOpen : MethodName := ⟨RX6, "isOpen", "(I)Z"⟩
abbrev cX6_isHoax : ByteArray := prog_7_method_18_code
def yX6_isHoax : MethodName := ⟨RX6, "isHoax", "(I)Z"⟩
abbrev cX6_firstOf : ByteArray := prog_7_method_19_code
def yX6_firstOf : MethodName := ⟨RX6, "firstOf", "(I)I"⟩
abbrev cX6_isBeside : ByteArray := prog_7_method_20_code
def yX6_isBeside : MethodName := ⟨RX6, "isBeside", "(III)Z"⟩
abbrev cX6_isOn : ByteArray := prog_7_method_21_code
def yX6_isOn : MethodName := ⟨RX6, "isOn", "(III)Z"⟩
abbrev cX6_again : ByteArray := prog_7_method_22_code
def yX6_again : MethodName := ⟨RX6, "again", "(III)I"⟩
abbrev cX6_onStretch : ByteArray := prog_7_method_23_code
def yX6_onStretch : MethodName := ⟨RX6, "onStretch", "(III)I"⟩
abbrev cX6_isBetter : ByteArray := prog_7_method_24_code
def yX6_isBetter : MethodName := ⟨RX6, "isBetter", "(IIIII)Z"⟩
abbrev cX6_agreeing : ByteArray := prog_7_method_25_code
def yX6_agreeing : MethodName := ⟨RX6, "agreeing", "(IIIII)I"⟩
abbrev cX6_reason : ByteArray := prog_7_method_26_code
def yX6_reason : MethodName := ⟨RX6, "reason", "(IIIIII)I"⟩
abbrev cX6_isRange : ByteArray := prog_7_method_27_code
def yX6_isRange : MethodName := ⟨RX6, "isRange", "(III)Z"⟩
abbrev cX6_isKnown : ByteArray := prog_7_method_28_code
def yX6_isKnown : MethodName := ⟨RX6, "isKnown", "(II)Z"⟩
abbrev cX6_call : ByteArray := prog_7_method_29_code
def yX6_call : MethodName := ⟨RX6, "call", "(IIIIII)I"⟩
abbrev cX6_newEvent : ByteArray := prog_7_method_30_code
def yX6_newEvent : MethodName := ⟨RX6, "newEvent", "()I"⟩
abbrev cX6_reasonFor : ByteArray := prog_7_method_31_code
def yX6_reasonFor : MethodName := ⟨RX6, "reasonFor", "(IIIIII)I"⟩
abbrev cX6_mark : ByteArray := prog_7_method_32_code
def yX6_mark : MethodName := ⟨RX6, "mark", "(II)V"⟩
abbrev cX6_split : ByteArray := prog_7_method_33_code
def yX6_split : MethodName := ⟨RX6, "split", "(I)I"⟩
abbrev cX6_size : ByteArray := prog_7_method_34_code
def yX6_size : MethodName := ⟨RX6, "size", "(I)I"⟩
abbrev cX6_merge : ByteArray := prog_7_method_35_code
def yX6_merge : MethodName := ⟨RX6, "merge", "(II)I"⟩
abbrev cX6_watch : ByteArray := prog_7_method_36_code
def yX6_watch : MethodName := ⟨RX6, "watch", "(IIII)V"⟩
abbrev cX6_state : ByteArray := prog_7_method_37_code
def yX6_state : MethodName := ⟨RX6, "state", "(II)V"⟩
abbrev cX6_share : ByteArray := prog_7_method_38_code
def yX6_share : MethodName := ⟨RX6, "share", "(II)I"⟩
abbrev cX6_agree : ByteArray := prog_7_method_39_code
def yX6_agree : MethodName := ⟨RX6, "agree", "(II)I"⟩
abbrev cX6_callAt : ByteArray := prog_7_method_40_code
def yX6_callAt : MethodName := ⟨RX6, "callAt", "(II)I"⟩
abbrev cX6_weightOf : ByteArray := prog_7_method_41_code
def yX6_weightOf : MethodName := ⟨RX6, "weightOf", "(I)I"⟩
abbrev cX6_placeOf : ByteArray := prog_7_method_42_code
def yX6_placeOf : MethodName := ⟨RX6, "placeOf", "(I)I"⟩
abbrev cX6_latestOf : ByteArray := prog_7_method_43_code
def yX6_latestOf : MethodName := ⟨RX6, "latestOf", "(I)I"⟩
abbrev cX6_eventAt : ByteArray := prog_7_method_44_code
def yX6_eventAt : MethodName := ⟨RX6, "eventAt", "(II)I"⟩
abbrev cX6_member : ByteArray := prog_7_method_45_code
def yX6_member : MethodName := ⟨RX6, "member", "(II)I"⟩
abbrev cX6_count : ByteArray := prog_7_method_46_code
def yX6_count : MethodName := ⟨RX6, "count", "(I)I"⟩
def RL : String := "CallJoinLaw"
abbrev cL_rule : ByteArray := method_3_code
def yL_rule : MethodName := ⟨RL, "rule", "(LCallJoin;IIIII)I"⟩
abbrev cL_weight : ByteArray := method_4_code
def yL_weight : MethodName := ⟨RL, "weight", "(LCallJoin;III)I"⟩
abbrev cL_point : ByteArray := method_5_code
def yL_point : MethodName := ⟨RL, "point", "(LCallJoin;II[J)I"⟩
abbrev cL_call : ByteArray := method_6_code
def yL_call : MethodName := ⟨RL, "call", "(LCallJoin;IIIIII[J)I"⟩
abbrev cL_reasonFor : ByteArray := method_7_code
def yL_reasonFor : MethodName := ⟨RL, "reasonFor", "(LCallJoin;IIIIII[J)I"⟩
abbrev cL_mark : ByteArray := method_8_code
def yL_mark : MethodName := ⟨RL, "mark", "(LCallJoin;II)I"⟩
abbrev cL_split : ByteArray := method_9_code
def yL_split : MethodName := ⟨RL, "split", "(LCallJoin;I[J)I"⟩
abbrev cL_merge : ByteArray := method_10_code
def yL_merge : MethodName := ⟨RL, "merge", "(LCallJoin;II[J)I"⟩
abbrev cL_watch : ByteArray := method_11_code
def yL_watch : MethodName := ⟨RL, "watch", "(LCallJoin;IIII)I"⟩
abbrev cL_state : ByteArray := method_12_code
def yL_state : MethodName := ⟨RL, "state", "(LCallJoin;II)I"⟩
abbrev cL_share : ByteArray := method_13_code
def yL_share : MethodName := ⟨RL, "share", "(LCallJoin;II[J)I"⟩
abbrev cL_agree : ByteArray := method_14_code
def yL_agree : MethodName := ⟨RL, "agree", "(LCallJoin;II[J)I"⟩
abbrev cL_callAt : ByteArray := method_15_code
def yL_callAt : MethodName := ⟨RL, "callAt", "(LCallJoin;II[J)I"⟩
abbrev cL_eventAt : ByteArray := method_16_code
def yL_eventAt : MethodName := ⟨RL, "eventAt", "(LCallJoin;II[J)I"⟩
abbrev cL_member : ByteArray := method_17_code
def yL_member : MethodName := ⟨RL, "member", "(LCallJoin;II[J)I"⟩
abbrev cL_count : ByteArray := method_18_code
def yL_count : MethodName := ⟨RL, "count", "(LCallJoin;I[J)I"⟩
abbrev cL_law : ByteArray := code
def yL_law : MethodName := ⟨RL, "law", "([I)Z"⟩
def RJ7 : String := "java/util/Arrays"
abbrev cJ7_fill : ByteArray := prog_18_method_103_code
def yJ7_fill : MethodName := ⟨RJ7, "fill", "([II)V"⟩
abbrev vwCl : List vw_C := [(RX0, TX0, 11), (RX1, TX1, 7), (RX2, TX2, 2), (RX3, TX3, 5), (RX4, TX4, 4), (RX6, TX6, 24)]
end
section
abbrev g_S : Type := (Nat → Int32) × (Nat → Nat → Int32)
def g_sI (u : g_S) (k : Nat) (v : Int32) : g_S := (upd u.1 k v, u.2)
def g_sA (u : g_S) (k : Nat) (i v : Int32) : g_S := (u.1, va_up u.2 k (upd (u.2 k) i.toNatClampNeg v))
def gl {α β : Type} (x : α) (k : α → Option β) : Option β := k x
def ck {β : Type} (i : Int32) (n : Nat) (x : Option β) : Option β := if i < 0 ∨ n ≤ i.toNatClampNeg then none else x
theorem gl_e {α β : Type} {x : α} {k : α → Option β} {r : β} (h : gl x k = some r) : ∃ y, y = x ∧ k y = some r := ⟨x, rfl, h⟩
theorem ck_e {β : Type} {i : Int32} {n : Nat} {x : Option β} {r : β} (h : ck i n x = some r) : vp_in i n ∧ x = some r := by
  unfold ck at h
  by_cases q : i < 0 ∨ n ≤ i.toNatClampNeg
  · rw [if_pos q] at h; cases h
  · rw [if_neg q] at h; exact ⟨q, h⟩
theorem ck_in {β : Type} {i : Int32} {n : Nat} {x : Option β} (h : vp_in i n) : ck i n x = x := by
  unfold ck; rw [if_neg h]
theorem bi_e {α β : Type} {o : Option α} {k : α → Option β} {r : β} (h : o.bind k = some r) : ∃ v, o = some v ∧ k v = some r := by
  cases o with
  | none => cases h
  | some v => exact ⟨v, rfl, h⟩
theorem if_t {β : Type} {c : Prop} [Decidable c] {a b : Option β} {r : β} (hc : c) (h : (if c then a else b) = some r) : a = some r := by rwa [if_pos hc] at h
theorem if_f {β : Type} {c : Prop} [Decidable c] {a b : Option β} {r : β} (hc : ¬ c) (h : (if c then a else b) = some r) : b = some r := by rwa [if_neg hc] at h
theorem if_z {β : Type} {c : Prop} [Decidable c] {a : Option β} {r : β} (h : (if c then none else a) = some r) : ¬ c ∧ a = some r := by
  by_cases q : c
  · rw [if_pos q] at h; cases h
  · rw [if_neg q] at h; exact ⟨q, h⟩
theorem if_s {β : Type} {c : Prop} [Decidable c] {a : Option β} {r : β} (h : (if c then a else none) = some r) : c ∧ a = some r := by
  by_cases q : c
  · rw [if_pos q] at h; exact ⟨q, h⟩
  · rw [if_neg q] at h; cases h
theorem if_nn {β : Type} {c : Prop} [Decidable c] {a b : Option β} {r : β} (hc : c) (h : (if ¬ c then a else b) = some r) : b = some r := by rwa [if_neg (fun q => q hc)] at h
theorem nar_z {v : Int32} (h : v = 0 ∨ v = 1) : narrow .boolean (.int v) = .int v := by rcases h with rfl | rfl <;> rfl
def gT : List Cond := lw_tbl.filter goodWord
theorem gT_of {w : Cond} (h : w ∈ lw_tbl) (hg : goodWord w = true) : w ∈ gT := List.mem_filter.mpr ⟨h, hg⟩
theorem gT_g {w : Cond} (h : w ∈ gT) : w ∈ gT ∧ ((w.onTables && w.keeps) = true ∨ ∃ ty, w = .arrayClass ty) := ⟨h, good_of_word (List.mem_filter.mp h).2⟩
theorem gT_c {c w : Cond} (h : c ∈ gT) (hw : w ∈ c :: gT) : w ∈ gT := (List.mem_cons.mp hw).elim (fun e => e ▸ h) id
theorem gT_good {c : Cond} (h : c ∈ gT) : GoodIn gT (c :: gT) := fun _ hw => gT_g (gT_c h hw)
theorem gT_V {own C : String} {idx : Nat} {y : MethodName} {c : Cond} (h1 : Cond.methodLink own idx y ∈ gT) (h2 : Cond.instanceMethod y ∈ gT) (h3 : Cond.selects C y y ∈ gT) (h4 : Cond.initialized C ∈ gT) (h5 : c ∈ gT) : GoodIn gT (wsV own idx C y (c :: gT)) := fun w hw => by
  refine gT_g ?_
  unfold wsV at hw
  rcases List.mem_append.mp hw with q | q
  · simp only [List.mem_cons, List.not_mem_nil, or_false] at q
    rcases q with rfl | rfl | rfl | rfl
    · exact h1
    · exact h2
    · exact h3
    · exact h4
  · exact gT_c h5 q
theorem gT_S {own : String} {idx : Nat} {y : MethodName} {c : Cond} (h1 : Cond.methodLink own idx y ∈ gT) (h2 : Cond.static y ∈ gT) (h3 : Cond.initialized own ∈ gT) (h5 : c ∈ gT) : GoodIn gT (wsS own idx y (c :: gT)) := fun w hw => by
  refine gT_g ?_
  unfold wsS at hw
  rcases List.mem_append.mp hw with q | q
  · simp only [List.mem_cons, List.not_mem_nil, or_false] at q
    rcases q with rfl | rfl | rfl
    · exact h1
    · exact h2
    · exact h3
  · exact gT_c h5 q
def rg (as : List Nat) (sz : Nat) : Nat → Prop := fun q => q ∈ as ∨ sz ≤ q
theorem rg_mono {as : List Nat} {a b q : Nat} (h : a ≤ b) (hq : rg as b q) : rg as a q := hq.elim Or.inl (fun x => Or.inr (Nat.le_trans h x))
theorem gw_D {ws : va_W} {as : List Nat} (h : ws.map Prod.fst = as) (hn : as.Nodup) (sz : Nat) : va_D (rg as sz) ws := by
  subst h
  refine ⟨fun i j x y hi hj hxy => ?_, fun k q hk => Or.inl (List.mem_map.mpr ⟨q, List.mem_of_getElem? hk, rfl⟩)⟩
  have h1 : (ws.map Prod.fst)[i]? = some x.1 := by rw [List.getElem?_map, hi]; rfl
  have h2 : (ws.map Prod.fst)[j]? = some x.1 := by rw [List.getElem?_map, hj, hxy]; rfl
  have hil : i < (ws.map Prod.fst).length := (List.getElem?_eq_some_iff.mp h1).1
  exact (List.getElem?_inj hil hn).mp (h1.trans h2.symm)
def gw_ok (X : (Nat → Prop) → State → Heap → Prop) : Prop :=
  (∀ (A : Nat → Prop) (U V : State) (H : Heap), V.vm = U.vm → X A U H → X A V H) ∧
  (∀ (A : Nat → Prop) (s U : State) (H : Heap), s.WarmedH U.vm → X A s H → X A U H) ∧
  (∀ (A : Nat → Prop) (U : State) (H H1 : Heap), (∀ a : Nat, a < H.size → ¬ A a → H1[a]? = H[a]?) → X A U H → X A U H1) ∧
  (∀ (A B : Nat → Prop) (U : State) (H : Heap), (∀ q, B q → A q) → X A U H → X B U H)
def gw_C (D : va_G) (cl : List vw_C) (tys : List (ClassId × FieldType)) (as : List Nat) (X : (Nat → Prop) → State → Heap → Prop) (s : State) : Prop :=
  va_K D cl tys s ∧ as.Nodup ∧ X (rg as s.heap.size) s s.heap
def gw_V {σ : Type} (D : va_G) (cl : List vw_C) (as : List Nat) (wd : σ → va_W) (s : State) (u : σ) (H : Heap) (locs : List Loc) : Prop :=
  va_P D cl (wd u) H ∧ va_S (rg as s.heap.size) s.heap H locs
def gw_pre {σ : Type} (D : va_G) (cl : List vw_C) (tys : List (ClassId × FieldType)) (as : List Nat) (X : (Nat → Prop) → State → Heap → Prop) (wd : σ → va_W) (sz : Nat) (u : σ) (U : State) : Prop :=
  U.heap.size = sz ∧ va_P D cl (wd u) U.heap ∧ gw_C D cl tys as X U
theorem gw_blind {σ : Type} {D : va_G} {cl : List vw_C} {tys : List (ClassId × FieldType)} {as : List Nat} {X : (Nat → Prop) → State → Heap → Prop} {wd : σ → va_W} {sz : Nat} {u : σ} {av : List Value} (hX : gw_ok X) : FrameBlind (va_Pc av (gw_pre D cl tys as X wd sz u)) := by
  intro a U g mk h
  obtain ⟨h0, h1, h2, h3, h4, h5⟩ := h
  exact ⟨h0, h1, h2, va_K.moved (u := U) (U := U.calling g mk a) (Vm.Alike.refl U.vm) h3, h4, hX.1 _ U (U.calling g mk a) _ rfl h5⟩
theorem gw_pass {σ : Type} {D : va_G} {cl : List vw_C} {tys : List (ClassId × FieldType)} {as : List Nat} {X : (Nat → Prop) → State → Heap → Prop} {wd : σ → va_W} {s : State} {u : σ} {H : Heap} {locs : List Loc} (hX : gw_ok X) (C : gw_C D cl tys as X s) (V : gw_V D cl as wd s u H locs)
    (U : State) (hU : U.heap = H) (hW : s.WarmedH U.vm) : gw_pre D cl tys as X wd H.size u U := by
  obtain ⟨hK, hn, hx⟩ := C
  subst hU
  refine ⟨rfl, V.1, va_K.moved hW.alike hK, hn, ?_⟩
  have h1 := hX.2.2.1 _ s s.heap U.heap V.2.2.1 hx
  have h2 := hX.2.2.2 _ (rg as U.heap.size) s U.heap (fun q h => rg_mono V.2.1 h) h1
  exact hX.2.1 _ s U _ hW h2
theorem gw_preS {σ : Type} {D : va_G} {cl : List vw_C} {tys : List (ClassId × FieldType)} {as : List Nat} {X : (Nat → Prop) → State → Heap → Prop} {wd : σ → va_W} {s : State} {u : σ} {H : Heap} {locs : List Loc} (hX : gw_ok X) (C : gw_C D cl tys as X s) (V : gw_V D cl as wd s u H locs) (As : List Value) :
    PreS s H (va_Pc As (gw_pre D cl tys as X wd H.size u)) As := ⟨gw_blind hX, fun U hU hW => ⟨rfl, gw_pass hX C V U hU hW⟩⟩
theorem gw_preV {σ : Type} {D : va_G} {cl : List vw_C} {tys : List (ClassId × FieldType)} {as : List Nat} {X : (Nat → Prop) → State → Heap → Prop} {wd : σ → va_W} {s : State} {u : σ} {H : Heap} {locs : List Loc} (hX : gw_ok X) (C : gw_C D cl tys as X s) (V : gw_V D cl as wd s u H locs) {b q0 ci : Nat} {q : vw_C} {fs : List Value} (As : List Value)
    (hc : cl[ci]? = some q) (he : (wd u)[q0]? = some (b, .inr (ci, fs))) : PreV s H q.1 b (va_Pc (Value.ref b :: As) (gw_pre D cl tys as X wd H.size u)) As :=
  ⟨gw_blind hX, va_recv C.1 V.1 hc he, fun U hU hW => ⟨rfl, gw_pass hX C V U hU hW⟩⟩
def exN (k : Nat) : String := match k with
  | 1 => "java/lang/IllegalArgumentException"
  | 2 => "java/lang/IndexOutOfBoundsException"
  | 3 => "java/lang/IllegalStateException"
  | 4 => "java/lang/UnsupportedOperationException"
  | _ => "java/lang/ArithmeticException"
section GWM
variable {σ : Type} (D : va_G) (cl : List vw_C) (tys : List (ClassId × FieldType)) (as : List Nat) (X : (Nat → Prop) → State → Heap → Prop) (wd : σ → va_W)
def gw_Pi (r : Int32) (u' : σ) : Int32 → σ → Prop := fun x w => x = r ∧ w = u'
def gw_Pl (r : Int64) (u' : σ) : Int64 → σ → Prop := fun x w => x = r ∧ w = u'
def gw_Pv (u' : σ) : σ → Prop := fun w => w = u'
def gw_W (w : σ) (t : State) : Prop := va_P D cl (wd w) t.heap
def gw_Mi (l : Launch) (y : MethodName) (ws : List Cond) (rm : Room) (sz : Nat) (u : σ) (As : List Value) (r : Int32) (u' : σ) : Prop :=
  Met l y ws rm (va_Pc As (gw_pre D cl tys as X wd sz u)) (va_Qi (gw_Pi r u') (gw_W D cl wd) (rg as sz)) 0 0 (rg as sz)
def gw_Ml (l : Launch) (y : MethodName) (ws : List Cond) (rm : Room) (sz : Nat) (u : σ) (As : List Value) (r : Int64) (u' : σ) : Prop :=
  Met l y ws rm (va_Pc As (gw_pre D cl tys as X wd sz u)) (va_Ql (gw_Pl r u') (gw_W D cl wd) (rg as sz)) 0 0 (rg as sz)
def gw_Mv (l : Launch) (y : MethodName) (ws : List Cond) (rm : Room) (sz : Nat) (u : σ) (As : List Value) (u' : σ) : Prop :=
  Met l y ws rm (va_Pc As (gw_pre D cl tys as X wd sz u)) (va_Qv (gw_Pv u') (gw_W D cl wd) (rg as sz)) 0 0 (rg as sz)
end GWM
abbrev gw_Ei {σ : Type} (D : va_G) (cl : List vw_C) (as : List Nat) (wd : σ → va_W) (below : List Frame) (args : Array Value) (s : State) (r : Int32) (u' : σ) : State → Prop := MQ below (va_Qi (gw_Pi r u') (gw_W D cl wd) (rg as s.heap.size)) args s 0 0 (rg as s.heap.size)
abbrev gw_El {σ : Type} (D : va_G) (cl : List vw_C) (as : List Nat) (wd : σ → va_W) (below : List Frame) (args : Array Value) (s : State) (r : Int64) (u' : σ) : State → Prop := MQ below (va_Ql (gw_Pl r u') (gw_W D cl wd) (rg as s.heap.size)) args s 0 0 (rg as s.heap.size)
abbrev gw_Ev {σ : Type} (D : va_G) (cl : List vw_C) (as : List Nat) (wd : σ → va_W) (below : List Frame) (args : Array Value) (s : State) (u' : σ) : State → Prop := MQ below (va_Qv (gw_Pv u') (gw_W D cl wd) (rg as s.heap.size)) args s 0 0 (rg as s.heap.size)
section GWR
variable {σ : Type} {p : Program} {l : Launch} {e : Env} {R : Room} {s : State} {m : MethodId} {args : Array Value} {below : List Frame} {meth : Method} {c : Code} {H : Heap} {locs : List Loc} {cells slots : Nat} {Q : State → Prop}
variable {cc : ByteArray} {pc : Nat} {ls : Array Slot} {rest st0 : List Value} {a : Array Value}
variable {D : va_G} {cl : List vw_C} {tys : List (ClassId × FieldType)} {as : List Nat} {X : (Nat → Prop) → State → Heap → Prop} {wd : σ → va_W} {u u' : σ}
theorem gw_nmi {x v : Int32} (h : v = x) (k : W p l e R s m args below meth c H locs cells slots Q (F0 m pc ls (.int v :: rest))) : W p l e R s m args below meth c H locs cells slots Q (F0 m pc ls (.int x :: rest)) := h ▸ k
theorem gw_nml {x v : Int64} (h : v = x) (k : W p l e R s m args below meth c H locs cells slots Q (F0 m pc ls (.long v :: rest))) : W p l e R s m args below meth c H locs cells slots Q (F0 m pc ls (.long x :: rest)) := h ▸ k
theorem gw_iast (hexec : p.tables.exec = Jvm.exec) (hb : c.code = cc) (hw : ∀ u, (wd u).map Prod.fst = as) (C : gw_C D cl tys as X s) (V : gw_V D cl as wd s u H locs) (q0 t0 : Nat) {b : Nat} {cA : ClassId} {n : Nat} {f : Nat → Int32} {i x : Int32} (ha : (wd u)[q0]? = some (b, .inl (cA, n, .inl f))) (ht : tys[t0]? = some (cA, .int)) (hin : vp_in i n)
    (hset : (wd u).set q0 (b, .inl (cA, n, .inl (upd f i.toNatClampNeg x))) = wd u') (hdg : decode cc pc = .ok (.iastore, 1))
    (kk : ∀ (H : Heap) (locs : List Loc), gw_V D cl as wd s u' H locs → W p l e R s m args below meth c H locs cells slots Q (F0 m (pc + 1) ls rest)) : W p l e R s m args below meth c H locs cells slots Q (F0 m pc ls (.int x :: .int i :: .ref b :: rest)) :=
  va_iast hexec hb C.1 V.1 (gw_D (hw u) C.2.1 _) V.2 q0 t0 ha ht hin hdg (fun H1 locs1 hP _ hS => kk H1 locs1 ⟨by rw [← hset]; exact hP, hS⟩)
theorem gw_put (hexec : p.tables.exec = Jvm.exec) (hb : c.code = cc) {own ref C : String} {T : u_T} {N ci index : Nat} {Ts : List Cond} (hts : ∀ w ∈ Ts, w.before args s = true) (hin : ∀ w ∈ u_ws C T N, w ∈ Ts) (ty0 : Nat → FieldType) (hty : ∀ k, k < N → parseFieldDescriptor (T k).2.2.1 = some (ty0 k)) (hnm : ∀ a, a < N → ∀ b, b < N → a ≠ b → (T a).2.1 ≠ (T b).2.1) (hown : s.vm.findClass own = some m.cls)
    (hw : ∀ u, (wd u).map Prod.fst = as) (C0 : gw_C D cl tys as X s) (V : gw_V D cl as wd s u H locs) (q0 : Nat) {b : Nat} {fs : List Value} (he : (wd u)[q0]? = some (b, .inr (ci, fs))) (hc : cl[ci]? = some (C, T, N)) (k : Nat) (hk : k < N) (hlink : (Cond.fieldLink own index ref (T k).2.1 (T k).2.2.1).before args s = true)
    (hsame : ∀ x, s.fieldFound? (T k).1 (T k).2.1 (T k).2.2.1 = some x → s.fieldFound? ref (T k).2.1 (T k).2.2.1 = some x) (hfin : (T k).2.2.2 = false) {v : Int32} (hd : parseFieldDescriptor (T k).2.2.1 = some .int) (hl : k < fs.length)
    (hset : (wd u).set q0 (b, .inr (ci, fs.set k (.int v))) = wd u') (hdg : decode cc pc = .ok (.putfield index, 3))
    (kk : ∀ (H : Heap) (locs : List Loc), gw_V D cl as wd s u' H locs → W p l e R s m args below meth c H locs cells slots Q (F0 m (pc + 3) ls rest)) : W p l e R s m args below meth c H locs cells slots Q (F0 m pc ls (.int v :: .ref b :: rest)) :=
  va_put hexec hb hts hin ty0 hty hnm hown C0.1 V.1 (gw_D (hw u) C0.2.1 _) V.2 q0 he hc k hk hlink hsame hfin hd rfl rfl hl hdg (fun H1 locs1 hP _ hS => kk H1 locs1 ⟨by rw [← hset]; exact hP, hS⟩)
theorem gw_ki {r : Int32} (V : gw_V D cl as wd s u H locs) (hr : va_Run p l e R s m args below meth c H locs cells slots 0 0 (F0 m pc ls st0) rest (va_Qi (gw_Pi r u') (gw_W D cl wd) (rg as H.size) a) (rg as H.size))
    (kk : ∀ (H : Heap) (locs : List Loc), gw_V D cl as wd s u' H locs → W p l e R s m args below meth c H locs cells slots Q (F0 m (pc + 3) ls (.int r :: rest))) : W p l e R s m args below meth c H locs cells slots Q (F0 m pc ls st0) := by
  refine va_calli hr V.2 (fun q _ h => rg_mono V.2.1 h) (fun q h => rg_mono V.2.1 h) (fun x w t H1 locs1 ht hvm hp hB hz hk hS => ?_)
  obtain ⟨rfl, rfl⟩ := hp
  exact kk H1 locs1 ⟨by rw [← ht]; exact hB, hS⟩
theorem gw_kl {r : Int64} (V : gw_V D cl as wd s u H locs) (hr : va_Run p l e R s m args below meth c H locs cells slots 0 0 (F0 m pc ls st0) rest (va_Ql (gw_Pl r u') (gw_W D cl wd) (rg as H.size) a) (rg as H.size))
    (kk : ∀ (H : Heap) (locs : List Loc), gw_V D cl as wd s u' H locs → W p l e R s m args below meth c H locs cells slots Q (F0 m (pc + 3) ls (.long r :: rest))) : W p l e R s m args below meth c H locs cells slots Q (F0 m pc ls st0) := by
  refine va_calll hr V.2 (fun q _ h => rg_mono V.2.1 h) (fun q h => rg_mono V.2.1 h) (fun x w t H1 locs1 ht hvm hp hB hz hk hS => ?_)
  obtain ⟨rfl, rfl⟩ := hp
  exact kk H1 locs1 ⟨by rw [← ht]; exact hB, hS⟩
theorem gw_kv (V : gw_V D cl as wd s u H locs) (hr : va_Run p l e R s m args below meth c H locs cells slots 0 0 (F0 m pc ls st0) rest (va_Qv (gw_Pv u') (gw_W D cl wd) (rg as H.size) a) (rg as H.size))
    (kk : ∀ (H : Heap) (locs : List Loc), gw_V D cl as wd s u' H locs → W p l e R s m args below meth c H locs cells slots Q (F0 m (pc + 3) ls rest)) : W p l e R s m args below meth c H locs cells slots Q (F0 m pc ls st0) := by
  refine va_callv hr V.2 (fun q _ h => rg_mono V.2.1 h) (fun q h => rg_mono V.2.1 h) (fun w t H1 locs1 ht hvm hp hB hz hk hS => ?_)
  obtain rfl := hp
  exact kk H1 locs1 ⟨by rw [← ht]; exact hB, hS⟩
theorem gw_reti {v r : Int32} {ty : FieldType} (hexec : p.tables.exec = Jvm.exec) (hb : c.code = cc) (hr : meth.sig.returnType = some ty) (hn : narrow ty (.int v) = .int v) (hlk : meth.locks = false) (V : gw_V D cl as wd s u H locs) (hv : v = r) (hu : u = u') (hdg : decode cc pc = .ok (.ireturn, 1)) :
    W p l e R s m args below meth c H locs cells slots (MQ below (va_Qi (gw_Pi r u') (gw_W D cl wd) (rg as s.heap.size)) args s cells slots (rg as s.heap.size)) (F0 m pc ls [.int v]) := by
  subst hv; subst hu
  exact W.zret hexec hb hr hn (fun t ht _ => ⟨⟨v, u, rfl, ⟨rfl, rfl⟩, by show va_P D cl (wd u) t.heap; rw [ht]; exact V.1⟩, V.2.F ht⟩) V.2.2.2 hdg hlk
theorem gw_retl {v r : Int64} (hexec : p.tables.exec = Jvm.exec) (hb : c.code = cc) (hr : meth.sig.returnType = some .long) (hlk : meth.locks = false) (V : gw_V D cl as wd s u H locs) (hv : v = r) (hu : u = u') (hdg : decode cc pc = .ok (.lreturn, 1)) :
    W p l e R s m args below meth c H locs cells slots (MQ below (va_Ql (gw_Pl r u') (gw_W D cl wd) (rg as s.heap.size)) args s cells slots (rg as s.heap.size)) (F0 m pc ls [.long v]) := by
  subst hv; subst hu
  exact W.lret hexec hb hr (fun t ht _ => ⟨⟨v, u, rfl, ⟨rfl, rfl⟩, by show va_P D cl (wd u) t.heap; rw [ht]; exact V.1⟩, V.2.F ht⟩) V.2.2.2 hdg hlk
theorem gw_retv (hexec : p.tables.exec = Jvm.exec) (hb : c.code = cc) (hr : meth.sig.returnType = none) (hlk : meth.locks = false) (V : gw_V D cl as wd s u H locs) (hu : u = u') (hdg : decode cc pc = .ok (.return_, 1)) :
    W p l e R s m args below meth c H locs cells slots (MQ below (va_Qv (gw_Pv u') (gw_W D cl wd) (rg as s.heap.size)) args s cells slots (rg as s.heap.size)) (F0 m pc ls []) := by
  subst hu
  exact W.vret hexec hb hr (fun t ht _ => ⟨⟨u, rfl, rfl, by show va_P D cl (wd u) t.heap; rw [ht]; exact V.1⟩, V.2.F ht⟩) V.2.2.2 hdg hlk
end GWR
def gw_B (p : Program) (s : State) (m : MethodId) (args : Array Value) (meth : Method) (c : Code) (cc : ByteArray) (nL : Nat) (ret : Option FieldType) (own : String) (Ts : List Cond) : Prop :=
  p.tables.exec = Jvm.exec ∧ c.code = cc ∧ c.maxLocals = nL ∧ s.vm.findClass own = some m.cls ∧ (∀ w ∈ Ts, w.before args s = true) ∧ meth.sig.returnType = ret ∧ meth.locks = false
section GWE
variable {σ : Type} {l : Launch} {y : MethodName} {ws ws' : List Cond} {rm : Room} {cc : ByteArray} {maxL : Nat} {ret : Option FieldType} {D : va_G} {cl : List vw_C} {tys : List (ClassId × FieldType)} {as : List Nat} {X : (Nat → Prop) → State → Heap → Prop} {wd : σ → va_W} {u u' : σ} {sz : Nat} {As : List Value}
theorem gw_Mof {Qc : Nat → Array Value → State → Outcome → State → Prop} {mc ms : Nat} (hy : plainName y.cls = true) (hw : ws = Cond.code y cc maxL ret :: ws')
    (body : ∀ (p : Program) (e : Env) (s : State) (m : MethodId) (below : List Frame) (meth : Method) (c : Code), gw_B p s m As.toArray meth c cc maxL ret y.cls ws' → gw_C D cl tys as X s → gw_V D cl as wd s u s.heap [] →
      W p l e rm s m As.toArray below meth c s.heap [] 0 0 (MQ below (Qc s.heap.size) As.toArray s mc ms (rg as s.heap.size)) (entryFrame m As.toArray maxL)) :
    Met l y ws rm (va_Pc As (gw_pre D cl tys as X wd sz u)) (Qc sz) mc ms (rg as sz) := by
  refine Met.ofW (cc := cc) (maxL := maxL) (ret := ret) hy hw ?_
  intro p e s m args below meth c s₁ B hml hv
  obtain ⟨rfl, rfl, hP, C⟩ := hv
  exact body p e s m below meth c ⟨B.exec, B.bytes, hml, findClass_of_methodNamed B.named, fun w h => atoms_spec (ws := ws) B.pre w (by rw [hw]; exact List.mem_cons_of_mem _ h), B.returns, B.notSynchronized⟩ C ⟨hP, va_S.rf⟩
end GWE
end
section
section GXM
variable {σ : Type} (D : va_G) (cl : List vw_C) (tys : List (ClassId × FieldType)) (as : List Nat) (X : (Nat → Prop) → State → Heap → Prop) (wd : σ → va_W)
def gx_Pi (k : Nat) (r : Int32) (u' : σ) : Int32 → σ → Prop := fun x w => k = 0 ∧ x = r ∧ w = u'
def gx_Pv (k : Nat) (u' : σ) : σ → Prop := fun w => k = 0 ∧ w = u'
def gx_Px (k : Nat) (u' : σ) : σ → Prop := fun w => ¬ k = 0 ∧ w = u'
def gx_W (k : Nat) (E : String) (w : σ) (t : State) : Prop := E = exN k ∧ va_P D cl (wd w) t.heap
def gx_Mi (l : Launch) (y : MethodName) (ws : List Cond) (rm : Room) (mc ms sz : Nat) (u : σ) (As : List Value) (k : Nat) (r : Int32) (u' : σ) : Prop :=
  vx_Met l y ws rm (va_Pc As (gw_pre D cl tys as X wd sz u)) (va_Qi (gx_Pi k r u') (gw_W D cl wd) (rg as sz)) (vx_X (gx_Px k u') (gx_W D cl wd k) (rg as sz)) mc ms (rg as sz)
def gx_Mv (l : Launch) (y : MethodName) (ws : List Cond) (rm : Room) (mc ms sz : Nat) (u : σ) (As : List Value) (k : Nat) (u' : σ) : Prop :=
  vx_Met l y ws rm (va_Pc As (gw_pre D cl tys as X wd sz u)) (va_Qv (gx_Pv k u') (gw_W D cl wd) (rg as sz)) (vx_X (gx_Px k u') (gx_W D cl wd k) (rg as sz)) mc ms (rg as sz)
end GXM
abbrev gx_Ei {σ : Type} (D : va_G) (cl : List vw_C) (as : List Nat) (wd : σ → va_W) (below : List Frame) (args : Array Value) (s : State) (mc ms k : Nat) (r : Int32) (u' : σ) : State → Prop := vx_MQ below (va_Qi (gx_Pi k r u') (gw_W D cl wd) (rg as s.heap.size)) (vx_X (gx_Px k u') (gx_W D cl wd k) (rg as s.heap.size)) args s mc ms (rg as s.heap.size)
abbrev gx_Ev {σ : Type} (D : va_G) (cl : List vw_C) (as : List Nat) (wd : σ → va_W) (below : List Frame) (args : Array Value) (s : State) (mc ms k : Nat) (u' : σ) : State → Prop := vx_MQ below (va_Qv (gx_Pv k u') (gw_W D cl wd) (rg as s.heap.size)) (vx_X (gx_Px k u') (gx_W D cl wd k) (rg as s.heap.size)) args s mc ms (rg as s.heap.size)
section GXR
variable {σ : Type} {p : Program} {l : Launch} {e : Env} {R : Room} {s : State} {m : MethodId} {args : Array Value} {below : List Frame} {meth : Method} {c : Code} {H : Heap} {locs : List Loc} {cells slots mc ms : Nat} {Q : State → Prop}
variable {cc : ByteArray} {pc : Nat} {ls : Array Slot} {rest st0 : List Value} {a : Array Value}
variable {D : va_G} {cl : List vw_C} {tys : List (ClassId × FieldType)} {as : List Nat} {X : (Nat → Prop) → State → Heap → Prop} {wd : σ → va_W} {u u' : σ} {k : Nat}
def gx_at (s : State) (k : Nat) (ce : Cell) (q : Addr) (H : Heap) : Prop := H[q]? = some ce ∧ ce.vm = .none ∧ s.vm.findClass (exN k) = some ce.cls
theorem gx_ki {r : Int32} (V : gw_V D cl as wd s u H locs) (hr : vx_Run p l e R s m args below meth c H locs cells slots mc ms (F0 m pc ls st0) rest (va_Qi (gx_Pi k r u') (gw_W D cl wd) (rg as H.size) a) (vx_X (gx_Px k u') (gx_W D cl wd k) (rg as H.size)) (rg as H.size))
    (kx : ¬ k = 0 → ∀ (H : Heap) (locs : List Loc) (ce : Cell) (q : Addr), gw_V D cl as wd s u' H locs → gx_at s k ce q H → vx_W p l e R s m args below meth c H locs (cells + mc) (slots + ms) Q (F0 m pc ls rest) q)
    (kk : k = 0 → ∀ (H : Heap) (locs : List Loc), gw_V D cl as wd s u' H locs → W p l e R s m args below meth c H locs (cells + mc) (slots + ms) Q (F0 m (pc + 3) ls (.int r :: rest))) : W p l e R s m args below meth c H locs cells slots Q (F0 m pc ls st0) := by
  refine vx_calli hr V.2 (fun q _ h => rg_mono V.2.1 h) (fun q h => rg_mono V.2.1 h) (fun q _ h => rg_mono V.2.1 h) (fun E ce q9 w t H1 locs1 ht hvm hp hB hz hk hS h1 h2 h3 => ?_) (fun x w t H1 locs1 ht hvm hp hB hz hk hS => ?_)
  · obtain ⟨hk0, rfl⟩ := hp
    obtain ⟨rfl, hB⟩ := hB
    exact kx hk0 H1 locs1 ce q9 ⟨by rw [← ht]; exact hB, hS⟩ ⟨h1, h2, h3⟩
  · obtain ⟨hk0, rfl, rfl⟩ := hp
    exact kk hk0 H1 locs1 ⟨by rw [← ht]; exact hB, hS⟩
theorem gx_kv (V : gw_V D cl as wd s u H locs) (hr : vx_Run p l e R s m args below meth c H locs cells slots mc ms (F0 m pc ls st0) rest (va_Qv (gx_Pv k u') (gw_W D cl wd) (rg as H.size) a) (vx_X (gx_Px k u') (gx_W D cl wd k) (rg as H.size)) (rg as H.size))
    (kx : ¬ k = 0 → ∀ (H : Heap) (locs : List Loc) (ce : Cell) (q : Addr), gw_V D cl as wd s u' H locs → gx_at s k ce q H → vx_W p l e R s m args below meth c H locs (cells + mc) (slots + ms) Q (F0 m pc ls rest) q)
    (kk : k = 0 → ∀ (H : Heap) (locs : List Loc), gw_V D cl as wd s u' H locs → W p l e R s m args below meth c H locs (cells + mc) (slots + ms) Q (F0 m (pc + 3) ls rest)) : W p l e R s m args below meth c H locs cells slots Q (F0 m pc ls st0) := by
  refine vx_callv hr V.2 (fun q _ h => rg_mono V.2.1 h) (fun q h => rg_mono V.2.1 h) (fun q _ h => rg_mono V.2.1 h) (fun E ce q9 w t H1 locs1 ht hvm hp hB hz hk hS h1 h2 h3 => ?_) (fun w t H1 locs1 ht hvm hp hB hz hk hS => ?_)
  · obtain ⟨hk0, rfl⟩ := hp
    obtain ⟨rfl, hB⟩ := hB
    exact kx hk0 H1 locs1 ce q9 ⟨by rw [← ht]; exact hB, hS⟩ ⟨h1, h2, h3⟩
  · obtain ⟨hk0, rfl⟩ := hp
    exact kk hk0 H1 locs1 ⟨by rw [← ht]; exact hB, hS⟩
theorem gx_out {Qc : Array Value → State → Outcome → State → Prop} {ce : Cell} {q : Addr} {k' : Nat} (htab : ∀ x ∈ c.exceptionTable.toList, False) (hlk : meth.locks = false) (V : gw_V D cl as wd s u H locs) (hat : gx_at s k ce q H) (h0 : ¬ k = 0) (hk : k = k') (hu : u = u') (hc : cells ≤ mc) (hs : slots ≤ ms) :
    vx_W p l e R s m args below meth c H locs cells slots (vx_MQ below Qc (vx_X (gx_Px k' u') (gx_W D cl wd k') (rg as s.heap.size)) args s mc ms (rg as s.heap.size)) (F0 m pc ls rest) q := by
  subst hk; subst hu
  exact vx_out (fun x hx => (htab x hx).elim) hlk hat.1 hat.2.1 hat.2.2 (fun t ht _ => ⟨u, ⟨h0, rfl⟩, ⟨rfl, by rw [ht]; exact V.1⟩, V.2.F ht⟩) V.2.2.2 hc hs
theorem gx_reti {XC : String → State → State → Prop} {v r : Int32} {ty : FieldType} (hexec : p.tables.exec = Jvm.exec) (hb : c.code = cc) (hr : meth.sig.returnType = some ty) (hn : narrow ty (.int v) = .int v) (hlk : meth.locks = false) (V : gw_V D cl as wd s u H locs) (hk : k = 0) (hv : v = r) (hu : u = u') (hc : cells ≤ mc) (hs : slots ≤ ms) (hdg : decode cc pc = .ok (.ireturn, 1)) :
    W p l e R s m args below meth c H locs cells slots (vx_MQ below (va_Qi (gx_Pi k r u') (gw_W D cl wd) (rg as s.heap.size)) XC args s mc ms (rg as s.heap.size)) (F0 m pc ls [.int v]) := by
  subst hv; subst hu
  refine W.widen hc hs (vx_ret ?_)
  exact W.zret hexec hb hr hn (fun t ht _ => ⟨⟨v, u, rfl, ⟨hk, rfl, rfl⟩, by show va_P D cl (wd u) t.heap; rw [ht]; exact V.1⟩, V.2.F ht⟩) V.2.2.2 hdg hlk
theorem gx_retv {XC : String → State → State → Prop} (hexec : p.tables.exec = Jvm.exec) (hb : c.code = cc) (hr : meth.sig.returnType = none) (hlk : meth.locks = false) (V : gw_V D cl as wd s u H locs) (hk : k = 0) (hu : u = u') (hc : cells ≤ mc) (hs : slots ≤ ms) (hdg : decode cc pc = .ok (.return_, 1)) :
    W p l e R s m args below meth c H locs cells slots (vx_MQ below (va_Qv (gx_Pv k u') (gw_W D cl wd) (rg as s.heap.size)) XC args s mc ms (rg as s.heap.size)) (F0 m pc ls []) := by
  subst hu
  refine W.widen hc hs (vx_ret ?_)
  exact W.vret hexec hb hr (fun t ht _ => ⟨⟨u, rfl, ⟨hk, rfl⟩, by show va_P D cl (wd u) t.heap; rw [ht]; exact V.1⟩, V.2.F ht⟩) V.2.2.2 hdg hlk
theorem gx_thr {Qc : Array Value → State → Outcome → State → Prop} {k' nL : Nat} {own E text : String} {names : List String} {ik is ic sa : Nat} {Ts Bs : List Cond} (hexec : p.tables.exec = Jvm.exec) (hb : c.code = cc) (hl9 : l.stackTraces = false) (hown : s.vm.findClass own = some m.cls) (hts : ∀ w ∈ Ts, w.before args s = true)
    (hfit : Bundle.fit E = true) (hfn : ∀ n ∈ names, Bundle.fit n = true) (h1 : Cond.classLink own ik E ∈ Ts) (h2 : Cond.initialized E ∈ Ts) (hA : ∀ w ∈ (vx_atS own ic E names).filter goodWord, w ∈ Ts) (hB : ∀ w ∈ (vx_atS own ic E names).filter (fun w => !goodWord w), w ∈ Bs) (hBs : ∀ w ∈ Bs, w.before args s = true)
    (hG : ∀ w ∈ Cond.classLink own ik E :: Cond.initialized E :: vx_atS own ic E names, vx_ot w = true) (hstr : vk_R own is text sa s) (hU : vx_Zq Bundle.tN "UNASSIGNED_STACK" Bundle.steD (rg as s.heap.size) s s.heap) (hN : vx_Zq Bundle.tN "SUPPRESSED_SENTINEL" Bundle.listD (rg as s.heap.size) s s.heap)
    (V : gw_V D cl as wd s u H locs) (htab : ∀ x ∈ c.exceptionTable.toList, False) (hsz : ls.size = nL) (hml : c.maxLocals = nL) (hlk : meth.locks = false) (hE : E = exN k') (h0 : ¬ k' = 0) (hu : u = u')
    (d0 : decode cc pc = .ok (.new ik, 3)) (d3 : decode cc (pc + 3) = .ok (.dup, 1)) (d4 : decode cc (pc + 4) = .ok (.ldc is, 2)) (d6 : decode cc (pc + 6) = .ok (.invokespecial ic, 3)) (d9 : decode cc (pc + 9) = .ok (.athrow, 1))
    (hRf : names.length + 3 < R.frames) (hRl : (rest.map fun v => v.category).sum + (13 * (names.length + 1) + 43) ≤ R.locals) (hRc : cells + 1 ≤ R.cells) (hRs : slots + 6 ≤ R.slots) (hc : cells + 1 ≤ mc) (hs : slots + 6 ≤ ms) :
    W p l e R s m args below meth c H locs cells slots (vx_MQ below Qc (vx_X (gx_Px k' u') (gx_W D cl wd k') (rg as s.heap.size)) args s mc ms (rg as s.heap.size)) (F0 m pc ls rest) := by
  subst hu
  refine vx_throwS hexec hb hl9 hown hfit hfn (hts _ h1) (hts _ h2) hstr (vx_hat (fun w hw => hts w (hA w hw)) hB hBs) hG hU hN V.2 (hsz.trans hml.symm) d0 d3 d4 d6 d9 (fun x hx => (htab x hx).elim) hRf hRl hRc hRs hlk (fun t _ hz hk => ?_) V.2.2.2 hc hs
  refine ⟨u, ⟨h0, rfl⟩, ⟨hE, ?_⟩, ?_⟩
  · exact V.1.kept (fun j q hq => hk q.1 (V.1 j q hq).lt)
  · exact ⟨Nat.le_trans V.2.1 hz, fun q h1 h2 => by rw [hk q (Nat.lt_of_lt_of_le h1 V.2.1)]; exact V.2.2.1 q h1 h2⟩
end GXR
section GXE
variable {σ : Type} {l : Launch} {y : MethodName} {ws ws' : List Cond} {rm : Room} {cc : ByteArray} {maxL : Nat} {ret : Option FieldType} {D : va_G} {cl : List vw_C} {tys : List (ClassId × FieldType)} {as : List Nat} {X : (Nat → Prop) → State → Heap → Prop} {wd : σ → va_W} {u : σ} {sz : Nat} {As : List Value}
theorem gx_Mof {Qc : Nat → Array Value → State → Outcome → State → Prop} {XC : Nat → String → State → State → Prop} {mc ms : Nat} (hy : plainName y.cls = true) (hw : ws = Cond.code y cc maxL ret :: ws')
    (body : ∀ (p : Program) (e : Env) (s : State) (m : MethodId) (below : List Frame) (meth : Method) (c : Code), gw_B p s m As.toArray meth c cc maxL ret y.cls ws' → (∀ x ∈ c.exceptionTable.toList, False) → gw_C D cl tys as X s → gw_V D cl as wd s u s.heap [] →
      W p l e rm s m As.toArray below meth c s.heap [] 0 0 (vx_MQ below (Qc s.heap.size) (XC s.heap.size) As.toArray s mc ms (rg as s.heap.size)) (entryFrame m As.toArray maxL)) :
    vx_Met l y ws rm (va_Pc As (gw_pre D cl tys as X wd sz u)) (Qc sz) (XC sz) mc ms (rg as sz) := by
  refine vx_ofW (cc := cc) (maxL := maxL) (ret := ret) hy hw ?_
  intro p e s m args below meth c s₁ B hml htab hv
  obtain ⟨rfl, rfl, hP, C⟩ := hv
  exact body p e s m below meth c ⟨B.exec, B.bytes, hml, findClass_of_methodNamed B.named, fun w h => atoms_spec (ws := ws) B.pre w (by rw [hw]; exact List.mem_cons_of_mem _ h), B.returns, B.notSynchronized⟩ htab C ⟨hP, va_S.rf⟩
end GXE
end
section
theorem gs_left {D : va_G} {cl : List vw_C} {w r : va_W} {H : Heap} (h : va_P D cl (w ++ r) H) : va_P D cl w H := fun k q hk => h k q (by rw [List.getElem?_append_left (List.getElem?_eq_some_iff.mp hk).1]; exact hk)
theorem gs_right {D : va_G} {cl : List vw_C} {w r : va_W} {H : Heap} (h : va_P D cl (w ++ r) H) : va_P D cl r H := fun k q hk => h (w.length + k) q (by rw [List.getElem?_append_right (Nat.le_add_right _ _), Nat.add_sub_cancel_left]; exact hk)
theorem gs_app {D : va_G} {cl : List vw_C} {w r : va_W} {H : Heap} (h1 : va_P D cl w H) (h2 : va_P D cl r H) : va_P D cl (w ++ r) H := fun k q hk => by
  rcases Nat.lt_or_ge k w.length with h | h
  · rw [List.getElem?_append_left h] at hk; exact h1 k q hk
  · rw [List.getElem?_append_right h] at hk; exact h2 _ q hk
theorem gs_kept {D : va_G} {cl : List vw_C} {r : va_W} {as ar : List Nat} {H H1 : Heap} (hr : r.map Prod.fst = ar) (hd : ∀ q ∈ ar, q ∉ as) (h : va_P D cl r H) (hk : ∀ q : Nat, q < H.size → ¬ rg as H.size q → H1[q]? = H[q]?) : va_P D cl r H1 :=
  h.kept (fun k q hq => hk q.1 (h k q hq).lt (fun z => z.elim (hd q.1 (by rw [← hr]; exact List.mem_map.mpr ⟨q, List.mem_of_getElem? hq, rfl⟩)) (fun z => absurd (h k q hq).lt (Nat.not_lt.mpr z))))
section GS
variable {σ τ : Type} {p : Program} {l : Launch} {e : Env} {R : Room} {s : State} {m : MethodId} {args : Array Value} {below : List Frame} {meth : Method} {c : Code} {H : Heap} {locs : List Loc} {cells slots mc ms : Nat} {Q : State → Prop}
variable {pc : Nat} {ls : Array Slot} {rest st0 : List Value} {a : Array Value}
variable {D : va_G} {cl : List vw_C} {tys tys2 : List (ClassId × FieldType)} {as ar as2 : List Nat} {X : (Nat → Prop) → State → Heap → Prop} {wd : σ → va_W} {u u' : σ} {r : va_W} {w1 w2 : va_W}
theorem gs_pre (hX : gw_ok X) (hK : va_K D cl tys s) (hn : as.Nodup) (hx : X (rg as2 s.heap.size) s s.heap) (hP : va_P D cl (wd u) H) (hS : va_S (rg as2 s.heap.size) s.heap H locs) (hle : ∀ q ∈ as, q ∈ as2) (U : State) (hU : U.heap = H) (hW : s.WarmedH U.vm) : gw_pre D cl tys as X wd H.size u U := by
  subst hU
  refine ⟨rfl, hP, va_K.moved hW.alike hK, hn, ?_⟩
  have h1 := hX.2.2.1 _ s s.heap U.heap hS.2.1 hx
  have h2 := hX.2.2.2 _ (rg as U.heap.size) s U.heap (fun q h => h.elim (fun z => Or.inl (hle q z)) (fun z => Or.inr (Nat.le_trans hS.1 z))) h1
  exact hX.2.1 _ s U _ hW h2
theorem gs_preS (hX : gw_ok X) (hK : va_K D cl tys s) (hn : as.Nodup) (hx : X (rg as2 s.heap.size) s s.heap) (hP : va_P D cl (wd u) H) (hS : va_S (rg as2 s.heap.size) s.heap H locs) (hle : ∀ q ∈ as, q ∈ as2) (As : List Value) : PreS s H (va_Pc As (gw_pre D cl tys as X wd H.size u)) As :=
  ⟨gw_blind hX, fun U hU hW => ⟨rfl, gs_pre hX hK hn hx hP hS hle U hU hW⟩⟩
theorem gs_preV (hX : gw_ok X) (hK : va_K D cl tys s) (hn : as.Nodup) (hx : X (rg as2 s.heap.size) s s.heap) (hP : va_P D cl (wd u) H) (hS : va_S (rg as2 s.heap.size) s.heap H locs) (hle : ∀ q ∈ as, q ∈ as2) {b q0 ci : Nat} {q : vw_C} {fs : List Value} (As : List Value) (hc : cl[ci]? = some q) (he : (wd u)[q0]? = some (b, .inr (ci, fs))) : PreV s H q.1 b (va_Pc (Value.ref b :: As) (gw_pre D cl tys as X wd H.size u)) As :=
  ⟨gw_blind hX, va_recv hK hP hc he, fun U hU hW => ⟨rfl, gs_pre hX hK hn hx hP hS hle U hU hW⟩⟩
theorem gs_ki {v : Int32} (hS : va_S (rg as2 s.heap.size) s.heap H locs) (hle : ∀ q ∈ as, q ∈ as2) (hr : va_Run p l e R s m args below meth c H locs cells slots mc ms (F0 m pc ls st0) rest (va_Qi (gw_Pi v u') (gw_W D cl wd) (rg as H.size) a) (rg as H.size))
    (hj : ∀ H1 : Heap, va_P D cl (wd u') H1 → (∀ q : Nat, q < H.size → ¬ rg as H.size q → H1[q]? = H[q]?) → va_P D cl w2 H1)
    (kk : ∀ (H : Heap) (locs : List Loc), va_P D cl w2 H → va_S (rg as2 s.heap.size) s.heap H locs → W p l e R s m args below meth c H locs (cells + mc) (slots + ms) Q (F0 m (pc + 3) ls (.int v :: rest))) : W p l e R s m args below meth c H locs cells slots Q (F0 m pc ls st0) := by
  have hin : ∀ q, rg as H.size q → rg as2 s.heap.size q := fun q h => h.elim (fun z => Or.inl (hle q z)) (fun z => Or.inr (Nat.le_trans hS.1 z))
  refine va_calli hr hS (fun q _ h => hin q h) hin (fun x w t H1 locs1 ht hvm hp hB hz hk hS => ?_)
  obtain ⟨rfl, rfl⟩ := hp
  exact kk H1 locs1 (hj H1 (by rw [← ht]; exact hB) hk) hS
theorem gs_kv (hS : va_S (rg as2 s.heap.size) s.heap H locs) (hle : ∀ q ∈ as, q ∈ as2) (hr : va_Run p l e R s m args below meth c H locs cells slots 0 0 (F0 m pc ls st0) rest (va_Qv (gw_Pv u') (gw_W D cl wd) (rg as H.size) a) (rg as H.size))
    (hj : ∀ H1 : Heap, va_P D cl (wd u') H1 → (∀ q : Nat, q < H.size → ¬ rg as H.size q → H1[q]? = H[q]?) → va_P D cl w2 H1)
    (kk : ∀ (H : Heap) (locs : List Loc), va_P D cl w2 H → va_S (rg as2 s.heap.size) s.heap H locs → W p l e R s m args below meth c H locs cells slots Q (F0 m (pc + 3) ls rest)) : W p l e R s m args below meth c H locs cells slots Q (F0 m pc ls st0) := by
  have hin : ∀ q, rg as H.size q → rg as2 s.heap.size q := fun q h => h.elim (fun z => Or.inl (hle q z)) (fun z => Or.inr (Nat.le_trans hS.1 z))
  refine va_callv hr hS (fun q _ h => hin q h) hin (fun w t H1 locs1 ht hvm hp hB hz hk hS => ?_)
  obtain rfl := hp
  exact kk H1 locs1 (hj H1 (by rw [← ht]; exact hB) hk) hS
theorem gs_xki {k : Nat} {v : Int32} (hS : va_S (rg as2 s.heap.size) s.heap H locs) (hle : ∀ q ∈ as, q ∈ as2) (hr : vx_Run p l e R s m args below meth c H locs cells slots mc ms (F0 m pc ls st0) rest (va_Qi (gx_Pi k v u') (gw_W D cl wd) (rg as H.size) a) (vx_X (gx_Px k u') (gx_W D cl wd k) (rg as H.size)) (rg as H.size))
    (hj : ∀ H1 : Heap, va_P D cl (wd u') H1 → (∀ q : Nat, q < H.size → ¬ rg as H.size q → H1[q]? = H[q]?) → va_P D cl w2 H1)
    (kx : ¬ k = 0 → ∀ (H : Heap) (locs : List Loc) (ce : Cell) (q : Addr), va_P D cl w2 H → va_S (rg as2 s.heap.size) s.heap H locs → gx_at s k ce q H → vx_W p l e R s m args below meth c H locs (cells + mc) (slots + ms) Q (F0 m pc ls rest) q)
    (kk : k = 0 → ∀ (H : Heap) (locs : List Loc), va_P D cl w2 H → va_S (rg as2 s.heap.size) s.heap H locs → W p l e R s m args below meth c H locs (cells + mc) (slots + ms) Q (F0 m (pc + 3) ls (.int v :: rest))) : W p l e R s m args below meth c H locs cells slots Q (F0 m pc ls st0) := by
  have hin : ∀ q, rg as H.size q → rg as2 s.heap.size q := fun q h => h.elim (fun z => Or.inl (hle q z)) (fun z => Or.inr (Nat.le_trans hS.1 z))
  refine vx_calli hr hS (fun q _ h => hin q h) hin (fun q _ h => hin q h) (fun E ce q9 w t H1 locs1 ht hvm hp hB hz hk hS h1 h2 h3 => ?_) (fun x w t H1 locs1 ht hvm hp hB hz hk hS => ?_)
  · obtain ⟨hk0, rfl⟩ := hp
    obtain ⟨rfl, hB⟩ := hB
    exact kx hk0 H1 locs1 ce q9 (hj H1 (by rw [← ht]; exact hB) hk) hS ⟨h1, h2, h3⟩
  · obtain ⟨hk0, rfl, rfl⟩ := hp
    exact kk hk0 H1 locs1 (hj H1 (by rw [← ht]; exact hB) hk) hS
theorem gs_xkv {k : Nat} (hS : va_S (rg as2 s.heap.size) s.heap H locs) (hle : ∀ q ∈ as, q ∈ as2) (hr : vx_Run p l e R s m args below meth c H locs cells slots mc ms (F0 m pc ls st0) rest (va_Qv (gx_Pv k u') (gw_W D cl wd) (rg as H.size) a) (vx_X (gx_Px k u') (gx_W D cl wd k) (rg as H.size)) (rg as H.size))
    (hj : ∀ H1 : Heap, va_P D cl (wd u') H1 → (∀ q : Nat, q < H.size → ¬ rg as H.size q → H1[q]? = H[q]?) → va_P D cl w2 H1)
    (kx : ¬ k = 0 → ∀ (H : Heap) (locs : List Loc) (ce : Cell) (q : Addr), va_P D cl w2 H → va_S (rg as2 s.heap.size) s.heap H locs → gx_at s k ce q H → vx_W p l e R s m args below meth c H locs (cells + mc) (slots + ms) Q (F0 m pc ls rest) q)
    (kk : k = 0 → ∀ (H : Heap) (locs : List Loc), va_P D cl w2 H → va_S (rg as2 s.heap.size) s.heap H locs → W p l e R s m args below meth c H locs (cells + mc) (slots + ms) Q (F0 m (pc + 3) ls rest)) : W p l e R s m args below meth c H locs cells slots Q (F0 m pc ls st0) := by
  have hin : ∀ q, rg as H.size q → rg as2 s.heap.size q := fun q h => h.elim (fun z => Or.inl (hle q z)) (fun z => Or.inr (Nat.le_trans hS.1 z))
  refine vx_callv hr hS (fun q _ h => hin q h) hin (fun q _ h => hin q h) (fun E ce q9 w t H1 locs1 ht hvm hp hB hz hk hS h1 h2 h3 => ?_) (fun w t H1 locs1 ht hvm hp hB hz hk hS => ?_)
  · obtain ⟨hk0, rfl⟩ := hp
    obtain ⟨rfl, hB⟩ := hB
    exact kx hk0 H1 locs1 ce q9 (hj H1 (by rw [← ht]; exact hB) hk) hS ⟨h1, h2, h3⟩
  · obtain ⟨hk0, rfl⟩ := hp
    exact kk hk0 H1 locs1 (hj H1 (by rw [← ht]; exact hB) hk) hS
end GS
def gl_M {σ : Type} (D : va_G) (cl : List vw_C) (tys : List (ClassId × FieldType)) (as : List Nat) (X : (Nat → Prop) → State → Heap → Prop) (wd : σ → va_W) (l : Launch) (y : MethodName) (ws : List Cond) (rm : Room) (mc ms sz : Nat) (u : σ) (As : List Value) (r : Int32) (u' : σ) : Prop :=
  Met l y ws rm (va_Pc As (gw_pre D cl tys as X wd sz u)) (va_Qi (gw_Pi r u') (gw_W D cl wd) (rg as sz)) mc ms (rg as sz)
def lwc (cs : List Nat) (k : Nat) : Int32 := if k = 0 then 0 else Int32.ofNat (cs.idxOf k + 1)
section GL
variable {σ : Type} {p : Program} {l : Launch} {e : Env} {R : Room} {s : State} {m : MethodId} {args : Array Value} {below : List Frame} {meth : Method} {c : Code} {H : Heap} {locs : List Loc} {cells slots mc ms : Nat} {Q : State → Prop}
variable {cc : ByteArray} {pc : Nat} {ls : Array Slot} {rest : List Value}
variable {D : va_G} {cl : List vw_C} {tys : List (ClassId × FieldType)} {as : List Nat} {X : (Nat → Prop) → State → Heap → Prop} {wd : σ → va_W} {u u' : σ}
theorem gl_reti {v r : Int32} {ty : FieldType} (hexec : p.tables.exec = Jvm.exec) (hb : c.code = cc) (hr : meth.sig.returnType = some ty) (hn : narrow ty (.int v) = .int v) (hlk : meth.locks = false) (hP : va_P D cl (wd u) H) (hS : va_S (rg as s.heap.size) s.heap H locs) (hv : v = r) (hu : u = u') (hc : cells ≤ mc) (hs : slots ≤ ms) (hdg : decode cc pc = .ok (.ireturn, 1)) :
    W p l e R s m args below meth c H locs cells slots (MQ below (va_Qi (gw_Pi r u') (gw_W D cl wd) (rg as s.heap.size)) args s mc ms (rg as s.heap.size)) (F0 m pc ls [.int v]) := by
  subst hv; subst hu
  refine W.widen hc hs ?_
  exact W.zret hexec hb hr hn (fun t ht _ => ⟨⟨v, u, rfl, ⟨rfl, rfl⟩, by show va_P D cl (wd u) t.heap; rw [ht]; exact hP⟩, hS.F ht⟩) hS.2.2 hdg hlk
theorem gl_last (hexec : p.tables.exec = Jvm.exec) (hb : c.code = cc) (hw : ∀ u, (wd u).map Prod.fst = as) (C : gw_C D cl tys as X s) (hP : va_P D cl (wd u) H) (hS : va_S (rg as s.heap.size) s.heap H locs) (q0 t0 : Nat) {b : Nat} {cA : ClassId} {n : Nat} {f : Nat → Int64} {i : Int32} {x : Int64} (ha : (wd u)[q0]? = some (b, .inl (cA, n, .inr (.inl f)))) (ht : tys[t0]? = some (cA, .long)) (hin : vp_in i n)
    (hset : (wd u).set q0 (b, .inl (cA, n, .inr (.inl (vp_updL f i.toNatClampNeg x)))) = wd u') (hdg : decode cc pc = .ok (.lastore, 1))
    (kk : ∀ (H : Heap) (locs : List Loc), va_P D cl (wd u') H → va_S (rg as s.heap.size) s.heap H locs → W p l e R s m args below meth c H locs cells slots Q (F0 m (pc + 1) ls rest)) : W p l e R s m args below meth c H locs cells slots Q (F0 m pc ls (.long x :: .int i :: .ref b :: rest)) :=
  va_last hexec hb C.1 hP (gw_D (hw u) C.2.1 _) hS q0 t0 ha ht hin hdg (fun H1 locs1 hP _ hS => kk H1 locs1 (by rw [← hset]; exact hP) hS)
end GL
theorem gl_Mof {σ : Type} {l : Launch} {y : MethodName} {ws ws' : List Cond} {rm : Room} {cc : ByteArray} {maxL : Nat} {ret : Option FieldType} {hh : List (Nat × Nat × Nat × Nat)} {D : va_G} {cl : List vw_C} {tys : List (ClassId × FieldType)} {as : List Nat} {X : (Nat → Prop) → State → Heap → Prop} {wd : σ → va_W} {u u' : σ} {sz mc ms : Nat} {As : List Value} {r : Int32} (hy : plainName y.cls = true) (hw : ws = Cond.codeWith y cc maxL ret hh :: ws')
    (body : ∀ (p : Program) (e : Env) (s : State) (m : MethodId) (below : List Frame) (meth : Method) (c : Code), gw_B p s m As.toArray meth c cc maxL ret y.cls ws' → c.exceptionTable.toList = tableOf hh → gw_C D cl tys as X s → va_P D cl (wd u) s.heap →
      W p l e rm s m As.toArray below meth c s.heap [] 0 0 (MQ below (va_Qi (gw_Pi r u') (gw_W D cl wd) (rg as s.heap.size)) As.toArray s mc ms (rg as s.heap.size)) (entryFrame m As.toArray maxL)) :
    gl_M D cl tys as X wd l y ws rm mc ms sz u As r u' := by
  refine va_MetW (cc := cc) (maxL := maxL) (ret := ret) (hh := hh) hy hw ?_
  intro p e s m args below meth c s₁ B hml hv
  obtain ⟨rfl, rfl, hP, C⟩ := hv
  have hts := atoms_spec (ws := ws) B.pre
  exact body p e s m below meth c ⟨B.exec, B.bytes, hml, findClass_of_methodNamed B.named, fun w h => hts w (by rw [hw]; exact List.mem_cons_of_mem _ h), B.returns, B.notSynchronized⟩ (vx_table (x := y) B (hts _ (by rw [hw]; exact List.mem_cons_self))) C hP
end
section
def fcJ_isBelow (p0 : Int32) (p1 : Int32) : Option (Int32) := if p0 < 0 then (some (0 : Int32)) else if p1 ≤ p0 then (some (0 : Int32)) else some (1 : Int32)
def fcJ_needKnown (p0 : Int32) : Option (Nat) := if ¬ p0 = 0 then (some 0) else some 1
def fcJ_needRange (p0 : Int32) : Option (Nat) := if ¬ p0 = 0 then (some 0) else some 2
def fcJ_rule_56 (u : g_S) (x1 : Int32) (x2 : Int32) (x3 : Int32) (x4 : Int32) (x5 : Int32) (y0 : Int32) : Option (Nat × g_S) := (fcJ_needRange y0).bind fun v9 => if v9 = 0 then (ck x1 8 <| gl (g_sA u 0 x1 x2) fun u10 => ck x1 8 <| gl (g_sA u10 1 x1 x3) fun u11 => ck x1 8 <| gl (g_sA u11 2 x1 x4) fun u12 => ck x1 8 <| gl (g_sA u12 3 x1 x5) fun u13 => some (0, u13)) else some (v9, u)
def fcJ_rule (u : g_S) (p1 : Int32) (p2 : Int32) (p3 : Int32) (p4 : Int32) (p5 : Int32) : Option (Nat × g_S) := (fcJ_isBelow p1 (8 : Int32)).bind fun v1 => (fcJ_needKnown v1).bind fun v2 => if v2 = 0 then ((fcJ_isBelow p2 (20001 : Int32)).bind fun v3 => (fcJ_needRange v3).bind fun v4 => if v4 = 0 then ((fcJ_isBelow p3 (100001 : Int32)).bind fun v5 => (fcJ_needRange v5).bind fun v6 => if v6 = 0 then ((fcJ_isBelow p4 (101 : Int32)).bind fun v7 => (fcJ_needRange v7).bind fun v8 => if v8 = 0 then (if p5 < (1 : Int32) then (fcJ_rule_56 u p1 p2 p3 p4 p5 (0 : Int32)) else if (100 : Int32) < p5 then (fcJ_rule_56 u p1 p2 p3 p4 p5 (0 : Int32)) else fcJ_rule_56 u p1 p2 p3 p4 p5 (1 : Int32)) else some (v8, u)) else some (v6, u)) else some (v4, u)) else some (v2, u)
def fcJ_weight_23 (u : g_S) (x1 : Int32) (x2 : Int32) (x3 : Int32) (y0 : Int32) : Option (Nat × g_S) := (fcJ_needKnown y0).bind fun v2 => if v2 = 0 then ((fcJ_isBelow x3 (101 : Int32)).bind fun v3 => (fcJ_needRange v3).bind fun v4 => if v4 = 0 then (ck ((x1 * (32 : Int32)) + x2) 256 <| gl (g_sA u 4 ((x1 * (32 : Int32)) + x2) x3) fun u5 => some (0, u5)) else some (v4, u)) else some (v2, u)
def fcJ_weight (u : g_S) (p1 : Int32) (p2 : Int32) (p3 : Int32) : Option (Nat × g_S) := (fcJ_isBelow p1 (8 : Int32)).bind fun v1 => if v1 = 0 then (fcJ_weight_23 u p1 p2 p3 (0 : Int32)) else (fcJ_isBelow p2 (32 : Int32)).bind fun v6 => if v6 = 0 then (fcJ_weight_23 u p1 p2 p3 (0 : Int32)) else fcJ_weight_23 u p1 p2 p3 (1 : Int32)
def fcJ_needRoom (p0 : Int32) : Option (Nat) := if ¬ p0 = 0 then (some 0) else some 4
def fcR_append (u : g_S) (p1 : Int32) (p2 : Int32) : Option (Int32 × g_S) := ck p1 8 <| ck ((p1 * (8 : Int32)) + (u.2 5 p1.toNatClampNeg)) 64 <| gl (g_sA u 6 ((p1 * (8 : Int32)) + (u.2 5 p1.toNatClampNeg)) p2) fun u1 => ck p1 8 <| ck p1 8 <| gl (g_sA u1 5 p1 ((u1.2 5 p1.toNatClampNeg) + (1 : Int32))) fun u2 => ck p1 8 <| some ((u2.2 5 p1.toNatClampNeg), u2)
def fcJ_point_37 (u : g_S) (x1 : Int32) (x2 : Int32) (y0 : Int32) : Option (Nat × Int32 × g_S) := (fcJ_needRoom y0).bind fun v5 => if v5 = 0 then ((fcR_append u x1 x2).bind fun v6 => some (0, v6.1, v6.2)) else some (v5, (0 : Int32), u)
def fcJ_point (u : g_S) (p1 : Int32) (p2 : Int32) : Option (Nat × Int32 × g_S) := (fcJ_isBelow p1 (8 : Int32)).bind fun v1 => (fcJ_needKnown v1).bind fun v2 => if v2 = 0 then ((fcJ_isBelow p2 (100000000 : Int32)).bind fun v3 => (fcJ_needRange v3).bind fun v4 => if v4 = 0 then (ck p1 8 <| if (8 : Int32) ≤ (u.2 5 p1.toNatClampNeg) then (fcJ_point_37 u p1 p2 (0 : Int32)) else fcJ_point_37 u p1 p2 (1 : Int32)) else some (v4, (0 : Int32), u)) else some (v2, (0 : Int32), u)
def fcA_latestTime (u : g_S)  : Option (Int32) := if ¬ (u.1 0) = 0 then (ck ((u.1 0) - (1 : Int32)) 121 <| some (u.2 12 ((u.1 0) - (1 : Int32)).toNatClampNeg)) else some (0 : Int32)
def fcJ_needCallData_62 (u : g_S) (x5 : Int32) (y0 : Int32) : Option (Nat) := (fcJ_needRange y0).bind fun v6 => if v6 = 0 then ((fcA_latestTime u ).bind fun v7 => if x5 < v7 then ((fcJ_needRange (0 : Int32)).bind fun v8 => if v8 = 0 then (some 0) else some v8) else (fcJ_needRange (1 : Int32)).bind fun v9 => if v9 = 0 then (some 0) else some v9) else some v6
def fcJ_needCallData_30 (u : g_S) (x1 : Int32) (x3 : Int32) (x5 : Int32) (y0 : Int32) : Option (Nat) := (fcJ_needKnown y0).bind fun v3 => if v3 = 0 then ((fcJ_isBelow x1 (1000 : Int32)).bind fun v4 => (fcJ_needRange v4).bind fun v5 => if v5 = 0 then (if x3 = (-1 : Int32) then (fcJ_needCallData_62 u x5 (1 : Int32)) else (fcJ_isBelow x3 (100000000 : Int32)).bind fun v10 => if v10 = 0 then (fcJ_needCallData_62 u x5 (0 : Int32)) else fcJ_needCallData_62 u x5 (1 : Int32)) else some v5) else some v3
def fcJ_needCallData (u : g_S) (p1 : Int32) (p2 : Int32) (p3 : Int32) (p4 : Int32) (p5 : Int32) : Option (Nat) := (fcJ_isBelow p2 (8 : Int32)).bind fun v1 => (fcJ_needKnown v1).bind fun v2 => if v2 = 0 then (if p4 = (-1 : Int32) then (fcJ_needCallData_30 u p1 p3 p5 (1 : Int32)) else (fcJ_isBelow p4 (8 : Int32)).bind fun v11 => if v11 = 0 then (fcJ_needCallData_30 u p1 p3 p5 (0 : Int32)) else fcJ_needCallData_30 u p1 p3 p5 (1 : Int32)) else some v2
def fcA_draft (u : g_S) (p1 : Int32) (p2 : Int32) (p3 : Int32) (p4 : Int32) (p5 : Int32) (p6 : Int32) : Option (Int32 × g_S) := ck (u.1 0) 121 <| gl (g_sA u 7 (u.1 0) p1) fun u1 => ck (u1.1 0) 121 <| gl (g_sA u1 8 (u1.1 0) p2) fun u2 => ck (u2.1 0) 121 <| gl (g_sA u2 9 (u2.1 0) p3) fun u3 => ck (u3.1 0) 121 <| gl (g_sA u3 10 (u3.1 0) p4) fun u4 => ck (u4.1 0) 121 <| gl (g_sA u4 11 (u4.1 0) p5) fun u5 => ck (u5.1 0) 121 <| gl (g_sA u5 12 (u5.1 0) p6) fun u6 => ck (u6.1 0) 121 <| gl (g_sA u6 14 (u6.1 0) (-1 : Int32)) fun u7 => ck (u7.1 0) 121 <| gl (g_sA u7 15 (u7.1 0) (0 : Int32)) fun u8 => ck (u8.1 0) 121 <| gl (g_sA u8 16 (u8.1 0) (0 : Int32)) fun u9 => some ((u9.1 0), u9)
def fcA_isHoax (u : g_S) (p1 : Int32) : Option (Int32) := ck p1 121 <| if ((u.2 16 p1.toNatClampNeg) &&& (4 : Int32)) = 0 then (some (0 : Int32)) else some (1 : Int32)
def fcJ_isInOpenEvent (u : g_S) (p1 : Int32) : Option (Int32) := ck p1 121 <| ck (u.2 13 p1.toNatClampNeg) 60 <| if ¬ (u.2 17 (u.2 13 p1.toNatClampNeg).toNatClampNeg) = 0 then (some (0 : Int32)) else some (1 : Int32)
def fcJ_canBeReason (u : g_S) (p1 : Int32) : Option (Int32) := (fcA_isHoax u p1).bind fun v1 => if ¬ v1 = 0 then (some (0 : Int32)) else (fcJ_isInOpenEvent u p1).bind fun v2 => if v2 = 0 then (some (0 : Int32)) else some (1 : Int32)
def fcJ_isWithinSpan (u : g_S) (p1 : Int32) (p2 : Int32) : Option (Int32) := ck p2 121 <| ck p1 121 <| ck p2 121 <| ck (u.2 8 p2.toNatClampNeg) 8 <| if (u.2 1 (u.2 8 p2.toNatClampNeg).toNatClampNeg) < ((u.2 12 p2.toNatClampNeg) - (u.2 12 p1.toNatClampNeg)) then (some (0 : Int32)) else some (1 : Int32)
def fcJ_latestOfLine_10 (u : g_S) : Nat → Int32 → Int32 → Option (Int32)
  | 0, _, _ => none
  | n + 1, x1, x2 => if x2 < 0 then (some (-1 : Int32)) else ck x2 121 <| ck x1 121 <| if ¬ (u.2 7 x2.toNatClampNeg) = (u.2 7 x1.toNatClampNeg) then (fcJ_latestOfLine_10 u n x1 (x2 + (-1 : Int32))) else (fcJ_canBeReason u x2).bind fun v2 => if v2 = 0 then (fcJ_latestOfLine_10 u n x1 (x2 + (-1 : Int32))) else (fcJ_isWithinSpan u x2 x1).bind fun v3 => if v3 = 0 then (some (-1 : Int32)) else some x2
def fcJ_latestOfLine (u : g_S) (p1 : Int32) : Option (Int32) := gl ((u.1 0) - (1 : Int32)) fun w1 => fcJ_latestOfLine_10 u 200 p1 w1
theorem fcJ_latestOfLine_10_s (u : g_S) (n : Nat) (x1 : Int32) (x2 : Int32) : fcJ_latestOfLine_10 u (n + 1) x1 x2 = (if x2 < 0 then (some (-1 : Int32)) else ck x2 121 <| ck x1 121 <| if ¬ (u.2 7 x2.toNatClampNeg) = (u.2 7 x1.toNatClampNeg) then (fcJ_latestOfLine_10 u n x1 (x2 + (-1 : Int32))) else (fcJ_canBeReason u x2).bind fun v2 => if v2 = 0 then (fcJ_latestOfLine_10 u n x1 (x2 + (-1 : Int32))) else (fcJ_isWithinSpan u x2 x1).bind fun v3 => if v3 = 0 then (some (-1 : Int32)) else some x2) := rfl
def fcJ_takeReason (u : g_S) (p1 : Int32) (p2 : Int32) (p3 : Int32) : Option (Int32 × g_S) := if ¬ p2 = (-1 : Int32) then (ck p1 121 <| gl (g_sA u 14 p1 p2) fun u1 => ck p1 121 <| gl (g_sA u1 15 p1 p3) fun u2 => some ((1 : Int32), u2)) else some ((0 : Int32), u)
def fcE_isWatchedFor (u : g_S) (p1 : Int32) (p2 : Int32) : Option (Int32) := ck p1 60 <| if ¬ (u.2 17 p1.toNatClampNeg) = 0 then (some (0 : Int32)) else ck p1 60 <| if ¬ (u.2 18 p1.toNatClampNeg) = p2 then (some (0 : Int32)) else ck p1 60 <| if (u.2 20 p1.toNatClampNeg) = (-1 : Int32) then (some (0 : Int32)) else some (1 : Int32)
def fcJ_eastOf (p0 : Int32) : Option (Int32) := some (p0 / (10000 : Int32))
def fcJ_northOf (p0 : Int32) : Option (Int32) := some (p0 - p0 / (10000 : Int32) * (10000 : Int32))
def fcJ_squareBetween (p0 : Int32) (p1 : Int32) : Option (Int64) := (fcJ_eastOf p0).bind fun v1 => (fcJ_eastOf p1).bind fun v2 => gl (Int32.toInt64 (v1 - v2)) fun w3 => (fcJ_northOf p0).bind fun v4 => (fcJ_northOf p1).bind fun v5 => gl (Int32.toInt64 (v4 - v5)) fun w6 => some ((w3 * w3) + (w6 * w6))
def fcR_isNearPiece (p0 : Int32) (p1 : Int32) (p2 : Int32) : Option (Int32) := (fcJ_eastOf p1).bind fun v1 => (fcJ_eastOf p0).bind fun v2 => gl (Int32.toInt64 (v1 - v2)) fun w3 => (fcJ_northOf p1).bind fun v4 => (fcJ_northOf p0).bind fun v5 => gl (Int32.toInt64 (v4 - v5)) fun w6 => (fcJ_eastOf p2).bind fun v7 => (fcJ_eastOf p0).bind fun v8 => gl (Int32.toInt64 (v7 - v8)) fun w9 => (fcJ_northOf p2).bind fun v10 => (fcJ_northOf p0).bind fun v11 => gl (Int32.toInt64 (v10 - v11)) fun w12 => gl ((w9 * w3) + (w12 * w6)) fun w13 => gl ((w3 * w3) + (w6 * w6)) fun w14 => if 0 < (lg_cmp w13 (0 : Int64)) then (if (lg_cmp w13 w14) < 0 then (gl ((w9 * w6) - (w12 * w3)) fun w15 => if 0 < (lg_cmp (w15 * w15) ((2500 : Int64) * w14)) then (some (0 : Int32)) else some (1 : Int32)) else (fcJ_squareBetween p1 p2).bind fun v16 => if 0 < (lg_cmp v16 (2500 : Int64)) then (some (0 : Int32)) else some (1 : Int32)) else (fcJ_squareBetween p0 p2).bind fun v17 => if 0 < (lg_cmp v17 (2500 : Int64)) then (some (0 : Int32)) else some (1 : Int32)
def fcR_isNear_9 (u : g_S) : Nat → Int32 → Int32 → Int32 → Int32 → Option (Int32)
  | 0, _, _, _, _ => none
  | n + 1, x3, x4, x5, x6 => if x3 ≤ x6 then (some (0 : Int32)) else ck (x5 + x6) 64 <| ck ((x5 + x6) + (1 : Int32)) 64 <| (fcR_isNearPiece (u.2 6 (x5 + x6).toNatClampNeg) (u.2 6 ((x5 + x6) + (1 : Int32)).toNatClampNeg) x4).bind fun v2 => if v2 = 0 then (fcR_isNear_9 u n x3 x4 x5 (x6 + (1 : Int32))) else some (1 : Int32)
def fcR_isNear (u : g_S) (p1 : Int32) (p2 : Int32) (p3 : Int32) (p4 : Int32) : Option (Int32) := gl (p1 * (8 : Int32)) fun w1 => fcR_isNear_9 u 200 p3 p4 w1 p2
theorem fcR_isNear_9_s (u : g_S) (n : Nat) (x3 : Int32) (x4 : Int32) (x5 : Int32) (x6 : Int32) : fcR_isNear_9 u (n + 1) x3 x4 x5 x6 = (if x3 ≤ x6 then (some (0 : Int32)) else ck (x5 + x6) 64 <| ck ((x5 + x6) + (1 : Int32)) 64 <| (fcR_isNearPiece (u.2 6 (x5 + x6).toNatClampNeg) (u.2 6 ((x5 + x6) + (1 : Int32)).toNatClampNeg) x4).bind fun v2 => if v2 = 0 then (fcR_isNear_9 u n x3 x4 x5 (x6 + (1 : Int32))) else some (1 : Int32)) := rfl
def fcJ_isOnStretch (u : g_S) (p1 : Int32) (p2 : Int32) : Option (Int32) := ck p2 60 <| gl (u.2 20 p2.toNatClampNeg) fun w1 => ck p1 121 <| gl (u.2 9 p1.toNatClampNeg) fun w2 => if ¬ w2 = (-1 : Int32) then (ck p2 60 <| ck p2 60 <| (fcR_isNear u w1 (u.2 21 p2.toNatClampNeg) (u.2 22 p2.toNatClampNeg) w2).bind fun v3 => if v3 = 0 ∨ v3 = 1 then some v3 else none) else ck p1 121 <| if ¬ (u.2 11 p1.toNatClampNeg) = w1 then (some (0 : Int32)) else some (1 : Int32)
def fcJ_firstOnStretch_2 (u : g_S) : Nat → Int32 → Int32 → Option (Int32)
  | 0, _, _ => none
  | n + 1, x1, x2 => if (u.1 1) ≤ x2 then (some (-1 : Int32)) else ck x1 121 <| (fcE_isWatchedFor u x2 (u.2 8 x1.toNatClampNeg)).bind fun v1 => if v1 = 0 then (fcJ_firstOnStretch_2 u n x1 (x2 + (1 : Int32))) else (fcJ_isOnStretch u x1 x2).bind fun v2 => if v2 = 0 then (fcJ_firstOnStretch_2 u n x1 (x2 + (1 : Int32))) else ck x2 60 <| some (u.2 19 x2.toNatClampNeg)
def fcJ_firstOnStretch (u : g_S) (p1 : Int32) : Option (Int32) := fcJ_firstOnStretch_2 u 200 p1 (0 : Int32)
theorem fcJ_firstOnStretch_2_s (u : g_S) (n : Nat) (x1 : Int32) (x2 : Int32) : fcJ_firstOnStretch_2 u (n + 1) x1 x2 = (if (u.1 1) ≤ x2 then (some (-1 : Int32)) else ck x1 121 <| (fcE_isWatchedFor u x2 (u.2 8 x1.toNatClampNeg)).bind fun v1 => if v1 = 0 then (fcJ_firstOnStretch_2 u n x1 (x2 + (1 : Int32))) else (fcJ_isOnStretch u x1 x2).bind fun v2 => if v2 = 0 then (fcJ_firstOnStretch_2 u n x1 (x2 + (1 : Int32))) else ck x2 60 <| some (u.2 19 x2.toNatClampNeg)) := rfl
def fcJ_isCandidate (u : g_S) (p1 : Int32) (p2 : Int32) : Option (Int32) := ck p1 121 <| ck p2 121 <| if ¬ (u.2 8 p1.toNatClampNeg) = (u.2 8 p2.toNatClampNeg) then (some (0 : Int32)) else (fcJ_canBeReason u p1).bind fun v1 => if v1 = 0 then (some (0 : Int32)) else some (1 : Int32)
def fcU_weigh_8 (u : g_S) : Nat → Int32 → Int32 → Int32 → Int32 → Option (Int32)
  | 0, _, _, _, _ => none
  | n + 1, x1, x3, x4, x5 => if (32 : Int32) ≤ x5 then (some x3) else if x4 = 0 then (some x3) else if ¬ (x4 &&& (1 : Int32)) = (1 : Int32) then (gl ((x4.toUInt32 >>> (Int32.toUInt32 (1 : Int32) &&& Int32.toUInt32 31)).toInt32) fun w1 => fcU_weigh_8 u n x1 x3 w1 (x5 + (1 : Int32))) else ck ((x1 * (32 : Int32)) + x5) 256 <| gl (x3 + (u.2 4 ((x1 * (32 : Int32)) + x5).toNatClampNeg)) fun w2 => gl ((x4.toUInt32 >>> (Int32.toUInt32 (1 : Int32) &&& Int32.toUInt32 31)).toInt32) fun w3 => fcU_weigh_8 u n x1 w2 w3 (x5 + (1 : Int32))
def fcU_weigh (u : g_S) (p1 : Int32) (p2 : Int32) : Option (Int32) := fcU_weigh_8 u 200 p1 (0 : Int32) p2 (0 : Int32)
theorem fcU_weigh_8_s (u : g_S) (n : Nat) (x1 : Int32) (x3 : Int32) (x4 : Int32) (x5 : Int32) : fcU_weigh_8 u (n + 1) x1 x3 x4 x5 = (if (32 : Int32) ≤ x5 then (some x3) else if x4 = 0 then (some x3) else if ¬ (x4 &&& (1 : Int32)) = (1 : Int32) then (gl ((x4.toUInt32 >>> (Int32.toUInt32 (1 : Int32) &&& Int32.toUInt32 31)).toInt32) fun w1 => fcU_weigh_8 u n x1 x3 w1 (x5 + (1 : Int32))) else ck ((x1 * (32 : Int32)) + x5) 256 <| gl (x3 + (u.2 4 ((x1 * (32 : Int32)) + x5).toNatClampNeg)) fun w2 => gl ((x4.toUInt32 >>> (Int32.toUInt32 (1 : Int32) &&& Int32.toUInt32 31)).toInt32) fun w3 => fcU_weigh_8 u n x1 w2 w3 (x5 + (1 : Int32))) := rfl
def fcU_meetsNeed (u : g_S) (p1 : Int32) (p2 : Int32) (p3 : Int32) : Option (Int32) := ck p1 8 <| ck p1 8 <| if (p2 * (u.2 3 p1.toNatClampNeg)) < ((u.2 2 p1.toNatClampNeg) * p3) then (some (0 : Int32)) else some (1 : Int32)
def fcJ_agreement_144 (u : g_S) (x7 : Int32) : Option (Int32) := if x7 = 0 then (some (0 : Int32)) else some (2 : Int32)
def fcJ_agreement_244 (u : g_S) (y0 : Int32) : Option (Int32) := if y0 = 0 then (some (0 : Int32)) else some (1 : Int32)
def fcJ_agreement_116 (u : g_S) (x1 : Int32) (x2 : Int32) (x3 : Int32) (x6 : Int32) (y0 : Int32) : Option (Int32) := ck x1 121 <| if (u.2 9 x1.toNatClampNeg) = (-1 : Int32) then (fcJ_agreement_144 u y0) else ck x2 121 <| if ¬ (u.2 9 x2.toNatClampNeg) = (-1 : Int32) then (ck x1 121 <| ck x2 121 <| (fcJ_squareBetween (u.2 9 x1.toNatClampNeg) (u.2 9 x2.toNatClampNeg)).bind fun v5 => ck x3 8 <| ck x3 8 <| gl ((Int32.toInt64 (u.2 0 x3.toNatClampNeg)) * (Int32.toInt64 (u.2 0 x3.toNatClampNeg))) fun w6 => if x6 = 0 then (if 0 < (lg_cmp ((4 : Int64) * v5) w6) then (fcJ_agreement_244 u (0 : Int32)) else fcJ_agreement_244 u (1 : Int32)) else if y0 = 0 then (fcJ_agreement_244 u (0 : Int32)) else if 0 < (lg_cmp v5 w6) then (fcJ_agreement_244 u (0 : Int32)) else fcJ_agreement_244 u (1 : Int32)) else fcJ_agreement_144 u y0
def fcJ_agreement_89 (u : g_S) (x1 : Int32) (x2 : Int32) (x3 : Int32) (x4 : Int32) (x5 : Int32) (y0 : Int32) : Option (Int32) := if y0 = 0 then (fcJ_agreement_116 u x1 x2 x3 y0 (0 : Int32)) else (fcU_meetsNeed u x3 x5 x4).bind fun v7 => if v7 = 0 then (fcJ_agreement_116 u x1 x2 x3 y0 (0 : Int32)) else fcJ_agreement_116 u x1 x2 x3 y0 (1 : Int32)
def fcJ_agreement (u : g_S) (p1 : Int32) (p2 : Int32) : Option (Int32) := (fcJ_isWithinSpan u p1 p2).bind fun v1 => if ¬ v1 = 0 then (ck p2 121 <| gl (u.2 8 p2.toNatClampNeg) fun w2 => ck p1 121 <| ck p2 121 <| (fcU_weigh u w2 ((u.2 10 p1.toNatClampNeg) ||| (u.2 10 p2.toNatClampNeg))).bind fun v3 => ck p1 121 <| ck p2 121 <| (fcU_weigh u w2 ((u.2 10 p1.toNatClampNeg) &&& (u.2 10 p2.toNatClampNeg))).bind fun v4 => if v3 ≤ 0 then (fcJ_agreement_89 u p1 p2 w2 v3 v4 (0 : Int32)) else fcJ_agreement_89 u p1 p2 w2 v3 v4 (1 : Int32)) else some (0 : Int32)
def fcJ_nearestByPlace_7 (u : g_S) : Nat → Int32 → Int32 → Int64 → Int32 → Option (Int32)
  | 0, _, _, _, _ => none
  | n + 1, x1, x2, x3, x5 => if (u.1 0) ≤ x5 then (some x2) else (fcJ_isCandidate u x5 x1).bind fun v1 => if v1 = 0 then (fcJ_nearestByPlace_7 u n x1 x2 x3 (x5 + (1 : Int32))) else (fcJ_agreement u x5 x1).bind fun v2 => if ¬ v2 = (1 : Int32) then (fcJ_nearestByPlace_7 u n x1 x2 x3 (x5 + (1 : Int32))) else ck x5 121 <| ck x1 121 <| (fcJ_squareBetween (u.2 9 x5.toNatClampNeg) (u.2 9 x1.toNatClampNeg)).bind fun v3 => if x2 = (-1 : Int32) then (fcJ_nearestByPlace_7 u n x1 x5 v3 (x5 + (1 : Int32))) else if 0 ≤ (lg_cmp v3 x3) then (fcJ_nearestByPlace_7 u n x1 x2 x3 (x5 + (1 : Int32))) else fcJ_nearestByPlace_7 u n x1 x5 v3 (x5 + (1 : Int32))
def fcJ_nearestByPlace (u : g_S) (p1 : Int32) : Option (Int32) := fcJ_nearestByPlace_7 u 200 p1 (-1 : Int32) (0 : Int64) (0 : Int32)
theorem fcJ_nearestByPlace_7_s (u : g_S) (n : Nat) (x1 : Int32) (x2 : Int32) (x3 : Int64) (x5 : Int32) : fcJ_nearestByPlace_7 u (n + 1) x1 x2 x3 x5 = (if (u.1 0) ≤ x5 then (some x2) else (fcJ_isCandidate u x5 x1).bind fun v1 => if v1 = 0 then (fcJ_nearestByPlace_7 u n x1 x2 x3 (x5 + (1 : Int32))) else (fcJ_agreement u x5 x1).bind fun v2 => if ¬ v2 = (1 : Int32) then (fcJ_nearestByPlace_7 u n x1 x2 x3 (x5 + (1 : Int32))) else ck x5 121 <| ck x1 121 <| (fcJ_squareBetween (u.2 9 x5.toNatClampNeg) (u.2 9 x1.toNatClampNeg)).bind fun v3 => if x2 = (-1 : Int32) then (fcJ_nearestByPlace_7 u n x1 x5 v3 (x5 + (1 : Int32))) else if 0 ≤ (lg_cmp v3 x3) then (fcJ_nearestByPlace_7 u n x1 x2 x3 (x5 + (1 : Int32))) else fcJ_nearestByPlace_7 u n x1 x5 v3 (x5 + (1 : Int32))) := rfl
def fcJ_greatestShare_21 (u : g_S) : Nat → Int32 → Int32 → Int32 → Int32 → Int32 → Int32 → Option (Int32)
  | 0, _, _, _, _, _, _ => none
  | n + 1, x1, x2, x3, x4, x5, x6 => if (u.1 0) ≤ x6 then (some x3) else (fcJ_isCandidate u x6 x1).bind fun v2 => if v2 = 0 then (fcJ_greatestShare_21 u n x1 x2 x3 x4 x5 (x6 + (1 : Int32))) else (fcJ_agreement u x6 x1).bind fun v3 => if ¬ v3 = (2 : Int32) then (fcJ_greatestShare_21 u n x1 x2 x3 x4 x5 (x6 + (1 : Int32))) else ck x6 121 <| ck x1 121 <| (fcU_weigh u x2 ((u.2 10 x6.toNatClampNeg) &&& (u.2 10 x1.toNatClampNeg))).bind fun v4 => ck x6 121 <| ck x1 121 <| (fcU_weigh u x2 ((u.2 10 x6.toNatClampNeg) ||| (u.2 10 x1.toNatClampNeg))).bind fun v5 => if x3 = (-1 : Int32) then (fcJ_greatestShare_21 u n x1 x2 x6 v4 v5 (x6 + (1 : Int32))) else if (v4 * x5) ≤ (x4 * v5) then (fcJ_greatestShare_21 u n x1 x2 x3 x4 x5 (x6 + (1 : Int32))) else fcJ_greatestShare_21 u n x1 x2 x6 v4 v5 (x6 + (1 : Int32))
def fcJ_greatestShare (u : g_S) (p1 : Int32) : Option (Int32) := ck p1 121 <| gl (u.2 8 p1.toNatClampNeg) fun w1 => fcJ_greatestShare_21 u 200 p1 w1 (-1 : Int32) (0 : Int32) (1 : Int32) (0 : Int32)
theorem fcJ_greatestShare_21_s (u : g_S) (n : Nat) (x1 : Int32) (x2 : Int32) (x3 : Int32) (x4 : Int32) (x5 : Int32) (x6 : Int32) : fcJ_greatestShare_21 u (n + 1) x1 x2 x3 x4 x5 x6 = (if (u.1 0) ≤ x6 then (some x3) else (fcJ_isCandidate u x6 x1).bind fun v2 => if v2 = 0 then (fcJ_greatestShare_21 u n x1 x2 x3 x4 x5 (x6 + (1 : Int32))) else (fcJ_agreement u x6 x1).bind fun v3 => if ¬ v3 = (2 : Int32) then (fcJ_greatestShare_21 u n x1 x2 x3 x4 x5 (x6 + (1 : Int32))) else ck x6 121 <| ck x1 121 <| (fcU_weigh u x2 ((u.2 10 x6.toNatClampNeg) &&& (u.2 10 x1.toNatClampNeg))).bind fun v4 => ck x6 121 <| ck x1 121 <| (fcU_weigh u x2 ((u.2 10 x6.toNatClampNeg) ||| (u.2 10 x1.toNatClampNeg))).bind fun v5 => if x3 = (-1 : Int32) then (fcJ_greatestShare_21 u n x1 x2 x6 v4 v5 (x6 + (1 : Int32))) else if (v4 * x5) ≤ (x4 * v5) then (fcJ_greatestShare_21 u n x1 x2 x3 x4 x5 (x6 + (1 : Int32))) else fcJ_greatestShare_21 u n x1 x2 x6 v4 v5 (x6 + (1 : Int32))) := rfl
def fcJ_seekReason (u : g_S) (p1 : Int32) : Option (g_S) := (fcJ_latestOfLine u p1).bind fun v1 => (fcJ_takeReason u p1 v1 (1 : Int32)).bind fun v2 => if v2.1 = 0 then ((fcJ_firstOnStretch v2.2 p1).bind fun v3 => (fcJ_takeReason v2.2 p1 v3 (2 : Int32)).bind fun v4 => if v4.1 = 0 then ((fcJ_nearestByPlace v4.2 p1).bind fun v5 => (fcJ_takeReason v4.2 p1 v5 (3 : Int32)).bind fun v6 => if v6.1 = 0 then ((fcJ_greatestShare v6.2 p1).bind fun v7 => (fcJ_takeReason v6.2 p1 v7 (4 : Int32)).bind fun v8 => some v8.2) else some v6.2) else some v4.2) else some v2.2
def fcE_begin (u : g_S) (p1 : Int32) (p2 : Int32) : Option (Int32 × g_S) := ck (u.1 1) 60 <| gl (g_sA u 17 (u.1 1) (0 : Int32)) fun u1 => ck (u1.1 1) 60 <| gl (g_sA u1 18 (u1.1 1) p1) fun u2 => ck (u2.1 1) 60 <| gl (g_sA u2 19 (u2.1 1) p2) fun u3 => ck (u3.1 1) 60 <| gl (g_sA u3 20 (u3.1 1) (-1 : Int32)) fun u4 => gl (g_sI u4 1 ((u4.1 1) + (1 : Int32))) fun u5 => some (((u5.1 1) - (1 : Int32)), u5)
def fcJ_call_136 (u : g_S) (x7 : Int32) : Option (Nat × Int32 × g_S) := gl (g_sI u 0 ((u.1 0) + (1 : Int32))) fun u7 => some (0, x7, u7)
def fcJ_call_90 (u : g_S) (x2 : Int32) (x7 : Int32) (y0 : Int32) : Option (Nat × Int32 × g_S) := (fcJ_needRoom y0).bind fun v8 => if v8 = 0 then ((fcE_begin u x2 x7).bind fun v9 => ck x7 121 <| gl (g_sA v9.2 13 x7 v9.1) fun u10 => fcJ_call_136 u10 x7) else some (v8, (0 : Int32), u)
def fcJ_call_28 (u : g_S) (x1 : Int32) (x2 : Int32) (x3 : Int32) (x4 : Int32) (x5 : Int32) (x6 : Int32) (y0 : Int32) : Option (Nat × Int32 × g_S) := (fcJ_needRoom y0).bind fun v2 => if v2 = 0 then ((fcA_draft u x1 x2 x3 x4 x5 x6).bind fun v3 => (fcJ_seekReason v3.2 v3.1).bind fun v4 => ck v3.1 121 <| gl (v4.2 14 v3.1.toNatClampNeg) fun w5 => if ¬ w5 = (-1 : Int32) then (ck w5 121 <| ck v3.1 121 <| gl (g_sA v4 13 v3.1 (v4.2 13 w5.toNatClampNeg)) fun u6 => fcJ_call_136 u6 v3.1) else if (60 : Int32) ≤ (v4.1 1) then (fcJ_call_90 v4 x2 v3.1 (0 : Int32)) else fcJ_call_90 v4 x2 v3.1 (1 : Int32)) else some (v2, (0 : Int32), u)
def fcJ_call (u : g_S) (p1 : Int32) (p2 : Int32) (p3 : Int32) (p4 : Int32) (p5 : Int32) (p6 : Int32) : Option (Nat × Int32 × g_S) := (fcJ_needCallData u p1 p2 p3 p5 p6).bind fun v1 => if v1 = 0 then (if (120 : Int32) ≤ (u.1 0) then (fcJ_call_28 u p1 p2 p3 p4 p5 p6 (0 : Int32)) else fcJ_call_28 u p1 p2 p3 p4 p5 p6 (1 : Int32)) else some (v1, (0 : Int32), u)
def fcJ_reasonFor (u : g_S) (p1 : Int32) (p2 : Int32) (p3 : Int32) (p4 : Int32) (p5 : Int32) (p6 : Int32) : Option (Nat × Int32 × g_S) := (fcJ_needCallData u p1 p2 p3 p5 p6).bind fun v1 => if v1 = 0 then ((fcA_draft u p1 p2 p3 p4 p5 p6).bind fun v2 => (fcJ_seekReason v2.2 v2.1).bind fun v3 => ck v2.1 121 <| some (0, (v3.2 14 v2.1.toNatClampNeg), v3)) else some (v1, (0 : Int32), u)
def fcJ_mark (u : g_S) (p1 : Int32) (p2 : Int32) : Option (Nat × g_S) := (fcJ_isBelow p1 (u.1 0)).bind fun v1 => (fcJ_needKnown v1).bind fun v2 => if v2 = 0 then ((fcJ_isBelow p2 (8 : Int32)).bind fun v3 => (fcJ_needRange v3).bind fun v4 => if v4 = 0 then (ck p1 121 <| gl (g_sA u 16 p1 p2) fun u5 => some (0, u5)) else some (v4, u)) else some (v2, u)
def fcJ_needState (p0 : Int32) : Option (Nat) := if ¬ p0 = 0 then (some 0) else some 3
def fcA_isUnder_5 (u : g_S) : Nat → Int32 → Int32 → Int32 → Option (Int32)
  | 0, _, _, _ => none
  | n + 1, x2, x3, x4 => if (120 : Int32) ≤ x4 then (some (0 : Int32)) else if x3 = (-1 : Int32) then (some (0 : Int32)) else if ¬ x3 = x2 then (ck x3 121 <| gl (u.2 14 x3.toNatClampNeg) fun w1 => fcA_isUnder_5 u n x2 w1 (x4 + (1 : Int32))) else some (1 : Int32)
def fcA_isUnder (u : g_S) (p1 : Int32) (p2 : Int32) : Option (Int32) := fcA_isUnder_5 u 200 p2 p1 (0 : Int32)
theorem fcA_isUnder_5_s (u : g_S) (n : Nat) (x2 : Int32) (x3 : Int32) (x4 : Int32) : fcA_isUnder_5 u (n + 1) x2 x3 x4 = (if (120 : Int32) ≤ x4 then (some (0 : Int32)) else if x3 = (-1 : Int32) then (some (0 : Int32)) else if ¬ x3 = x2 then (ck x3 121 <| gl (u.2 14 x3.toNatClampNeg) fun w1 => fcA_isUnder_5 u n x2 w1 (x4 + (1 : Int32))) else some (1 : Int32)) := rfl
def fcA_moveBranch_2 : Nat → g_S → Int32 → Int32 → Int32 → Option (g_S)
  | 0, _, _, _, _ => none
  | n + 1, u, x1, x2, x3 => if (u.1 0) ≤ x3 then (some u) else (fcA_isUnder u x3 x1).bind fun v1 => if v1 = 0 then (fcA_moveBranch_2 n u x1 x2 (x3 + (1 : Int32))) else ck x3 121 <| gl (g_sA u 13 x3 x2) fun u2 => fcA_moveBranch_2 n u2 x1 x2 (x3 + (1 : Int32))
def fcA_moveBranch (u : g_S) (p1 : Int32) (p2 : Int32) : Option (g_S) := fcA_moveBranch_2 200 u p1 p2 (0 : Int32)
theorem fcA_moveBranch_2_s (u : g_S) (n : Nat) (x1 : Int32) (x2 : Int32) (x3 : Int32) : fcA_moveBranch_2 (n + 1) u x1 x2 x3 = (if (u.1 0) ≤ x3 then (some u) else (fcA_isUnder u x3 x1).bind fun v1 => if v1 = 0 then (fcA_moveBranch_2 n u x1 x2 (x3 + (1 : Int32))) else ck x3 121 <| gl (g_sA u 13 x3 x2) fun u2 => fcA_moveBranch_2 n u2 x1 x2 (x3 + (1 : Int32))) := rfl
def fcJ_split_60 (u : g_S) (x1 : Int32) (y0 : Int32) : Option (Nat × Int32 × g_S) := (fcJ_needRoom y0).bind fun v4 => if v4 = 0 then (ck x1 121 <| (fcE_begin u (u.2 8 x1.toNatClampNeg) x1).bind fun v5 => (fcA_moveBranch v5.2 x1 v5.1).bind fun v6 => ck x1 121 <| gl (g_sA v6 14 x1 (-1 : Int32)) fun u7 => ck x1 121 <| gl (g_sA u7 15 x1 (0 : Int32)) fun u8 => some (0, v5.1, u8)) else some (v4, (0 : Int32), u)
def fcJ_split_40 (u : g_S) (x1 : Int32) (y0 : Int32) : Option (Nat × Int32 × g_S) := (fcJ_needState y0).bind fun v3 => if v3 = 0 then (if (60 : Int32) ≤ (u.1 1) then (fcJ_split_60 u x1 (0 : Int32)) else fcJ_split_60 u x1 (1 : Int32)) else some (v3, (0 : Int32), u)
def fcJ_split (u : g_S) (p1 : Int32) : Option (Nat × Int32 × g_S) := (fcJ_isBelow p1 (u.1 0)).bind fun v1 => (fcJ_needKnown v1).bind fun v2 => if v2 = 0 then (ck p1 121 <| if (u.2 14 p1.toNatClampNeg) = (-1 : Int32) then (fcJ_split_40 u p1 (0 : Int32)) else (fcJ_isInOpenEvent u p1).bind fun v9 => if v9 = 0 then (fcJ_split_40 u p1 (0 : Int32)) else fcJ_split_40 u p1 (1 : Int32)) else some (v2, (0 : Int32), u)
def fcA_moveAll_2 : Nat → g_S → Int32 → Int32 → Int32 → Option (g_S)
  | 0, _, _, _, _ => none
  | n + 1, u, x1, x2, x3 => if (u.1 0) ≤ x3 then (some u) else ck x3 121 <| if ¬ (u.2 13 x3.toNatClampNeg) = x1 then (fcA_moveAll_2 n u x1 x2 (x3 + (1 : Int32))) else ck x3 121 <| gl (g_sA u 13 x3 x2) fun u1 => fcA_moveAll_2 n u1 x1 x2 (x3 + (1 : Int32))
def fcA_moveAll (u : g_S) (p1 : Int32) (p2 : Int32) : Option (g_S) := fcA_moveAll_2 200 u p1 p2 (0 : Int32)
theorem fcA_moveAll_2_s (u : g_S) (n : Nat) (x1 : Int32) (x2 : Int32) (x3 : Int32) : fcA_moveAll_2 (n + 1) u x1 x2 x3 = (if (u.1 0) ≤ x3 then (some u) else ck x3 121 <| if ¬ (u.2 13 x3.toNatClampNeg) = x1 then (fcA_moveAll_2 n u x1 x2 (x3 + (1 : Int32))) else ck x3 121 <| gl (g_sA u 13 x3 x2) fun u1 => fcA_moveAll_2 n u1 x1 x2 (x3 + (1 : Int32))) := rfl
def fcA_countIn_4 (u : g_S) : Nat → Int32 → Int32 → Int32 → Option (Int32)
  | 0, _, _, _ => none
  | n + 1, x1, x2, x3 => if (u.1 0) ≤ x3 then (some x2) else ck x3 121 <| if ¬ (u.2 13 x3.toNatClampNeg) = x1 then (fcA_countIn_4 u n x1 x2 (x3 + (1 : Int32))) else fcA_countIn_4 u n x1 (x2 + (1 : Int32)) (x3 + (1 : Int32))
def fcA_countIn (u : g_S) (p1 : Int32) : Option (Int32) := fcA_countIn_4 u 200 p1 (0 : Int32) (0 : Int32)
theorem fcA_countIn_4_s (u : g_S) (n : Nat) (x1 : Int32) (x2 : Int32) (x3 : Int32) : fcA_countIn_4 u (n + 1) x1 x2 x3 = (if (u.1 0) ≤ x3 then (some x2) else ck x3 121 <| if ¬ (u.2 13 x3.toNatClampNeg) = x1 then (fcA_countIn_4 u n x1 x2 (x3 + (1 : Int32))) else fcA_countIn_4 u n x1 (x2 + (1 : Int32)) (x3 + (1 : Int32))) := rfl
def fcJ_merge_80 (u : g_S) (x1 : Int32) (x2 : Int32) (x3 : Int32) (y0 : Int32) : Option (Nat × Int32 × g_S) := (fcJ_needState y0).bind fun v4 => if v4 = 0 then (ck x1 60 <| gl (u.2 19 x1.toNatClampNeg) fun w5 => ck w5 121 <| gl (g_sA u 14 w5 x2) fun u6 => ck w5 121 <| gl (g_sA u6 15 w5 (5 : Int32)) fun u7 => (fcA_moveAll u7 x1 x3).bind fun v8 => ck x1 60 <| gl (g_sA v8 17 x1 (3 : Int32)) fun u9 => ck x1 60 <| gl (g_sA u9 19 x1 (-1 : Int32)) fun u10 => (fcA_countIn u10 x3).bind fun v11 => some (0, v11, u10)) else some (v4, (0 : Int32), u)
def fcJ_merge_33 (u : g_S) (x1 : Int32) (x2 : Int32) (y0 : Int32) : Option (Nat × Int32 × g_S) := (fcJ_needKnown y0).bind fun v2 => if v2 = 0 then (ck x2 121 <| gl (u.2 13 x2.toNatClampNeg) fun w3 => ck x1 60 <| if ¬ (u.2 17 x1.toNatClampNeg) = 0 then (fcJ_merge_80 u x1 x2 w3 (0 : Int32)) else ck w3 60 <| if ¬ (u.2 17 w3.toNatClampNeg) = 0 then (fcJ_merge_80 u x1 x2 w3 (0 : Int32)) else if x1 = w3 then (fcJ_merge_80 u x1 x2 w3 (0 : Int32)) else fcJ_merge_80 u x1 x2 w3 (1 : Int32)) else some (v2, (0 : Int32), u)
def fcJ_merge (u : g_S) (p1 : Int32) (p2 : Int32) : Option (Nat × Int32 × g_S) := (fcJ_isBelow p1 (u.1 1)).bind fun v1 => if v1 = 0 then (fcJ_merge_33 u p1 p2 (0 : Int32)) else (fcJ_isBelow p2 (u.1 0)).bind fun v12 => if v12 = 0 then (fcJ_merge_33 u p1 p2 (0 : Int32)) else fcJ_merge_33 u p1 p2 (1 : Int32)
def fcJ_watch_95 (u : g_S) (x1 : Int32) (x2 : Int32) (x3 : Int32) (x4 : Int32) (y0 : Int32) : Option (Nat × g_S) := (fcJ_needState y0).bind fun v5 => if v5 = 0 then (ck x1 60 <| gl (g_sA u 20 x1 x2) fun u6 => ck x1 60 <| gl (g_sA u6 21 x1 (if x4 < x3 then x4 else x3)) fun u7 => ck x1 60 <| gl (g_sA u7 22 x1 (if x3 < x4 then x4 else x3)) fun u8 => some (0, u8)) else some (v5, u)
def fcJ_watch_75 (u : g_S) (x1 : Int32) (x2 : Int32) (x3 : Int32) (x4 : Int32) (y0 : Int32) : Option (Nat × g_S) := (fcJ_needRange y0).bind fun v4 => if v4 = 0 then (ck x1 60 <| if ¬ (u.2 17 x1.toNatClampNeg) = 0 then (fcJ_watch_95 u x1 x2 x3 x4 (0 : Int32)) else fcJ_watch_95 u x1 x2 x3 x4 (1 : Int32)) else some (v4, u)
def fcJ_watch_28 (u : g_S) (x1 : Int32) (x2 : Int32) (x3 : Int32) (x4 : Int32) (y0 : Int32) : Option (Nat × g_S) := (fcJ_needKnown y0).bind fun v2 => if v2 = 0 then (ck x2 8 <| (fcJ_isBelow x3 (u.2 5 x2.toNatClampNeg)).bind fun v3 => if v3 = 0 then (fcJ_watch_75 u x1 x2 x3 x4 (0 : Int32)) else ck x2 8 <| (fcJ_isBelow x4 (u.2 5 x2.toNatClampNeg)).bind fun v9 => if v9 = 0 then (fcJ_watch_75 u x1 x2 x3 x4 (0 : Int32)) else if x3 = x4 then (fcJ_watch_75 u x1 x2 x3 x4 (0 : Int32)) else fcJ_watch_75 u x1 x2 x3 x4 (1 : Int32)) else some (v2, u)
def fcJ_watch (u : g_S) (p1 : Int32) (p2 : Int32) (p3 : Int32) (p4 : Int32) : Option (Nat × g_S) := (fcJ_isBelow p1 (u.1 1)).bind fun v1 => if v1 = 0 then (fcJ_watch_28 u p1 p2 p3 p4 (0 : Int32)) else (fcJ_isBelow p2 (8 : Int32)).bind fun v10 => if v10 = 0 then (fcJ_watch_28 u p1 p2 p3 p4 (0 : Int32)) else fcJ_watch_28 u p1 p2 p3 p4 (1 : Int32)
def fcJ_state_62 (u : g_S) (x1 : Int32) (x2 : Int32) (y0 : Int32) : Option (Nat × g_S) := (fcJ_needState y0).bind fun v4 => if v4 = 0 then (ck x1 60 <| gl (g_sA u 17 x1 x2) fun u5 => some (0, u5)) else some (v4, u)
def fcJ_state_28 (u : g_S) (x1 : Int32) (x2 : Int32) (y0 : Int32) : Option (Nat × g_S) := (fcJ_needRange y0).bind fun v3 => if v3 = 0 then (ck x1 60 <| if (u.2 17 x1.toNatClampNeg) = x2 then (fcJ_state_62 u x1 x2 (0 : Int32)) else ck x1 60 <| if (u.2 17 x1.toNatClampNeg) = (3 : Int32) then (fcJ_state_62 u x1 x2 (0 : Int32)) else fcJ_state_62 u x1 x2 (1 : Int32)) else some (v3, u)
def fcJ_state (u : g_S) (p1 : Int32) (p2 : Int32) : Option (Nat × g_S) := (fcJ_isBelow p1 (u.1 1)).bind fun v1 => (fcJ_needKnown v1).bind fun v2 => if v2 = 0 then (if p2 < 0 then (fcJ_state_28 u p1 p2 (0 : Int32)) else if (2 : Int32) < p2 then (fcJ_state_28 u p1 p2 (0 : Int32)) else fcJ_state_28 u p1 p2 (1 : Int32)) else some (v2, u)
def fcJ_needTwoCalls (u : g_S) (p1 : Int32) (p2 : Int32) : Option (Nat) := (fcJ_isBelow p1 (u.1 0)).bind fun v1 => if v1 = 0 then ((fcJ_needKnown (0 : Int32)).bind fun v2 => if v2 = 0 then (some 0) else some v2) else (fcJ_isBelow p2 (u.1 0)).bind fun v3 => if v3 = 0 then ((fcJ_needKnown (0 : Int32)).bind fun v4 => if v4 = 0 then (some 0) else some v4) else if p1 = p2 then ((fcJ_needKnown (0 : Int32)).bind fun v5 => if v5 = 0 then (some 0) else some v5) else (fcJ_needKnown (1 : Int32)).bind fun v6 => if v6 = 0 then (some 0) else some v6
def fcJ_share (u : g_S) (p1 : Int32) (p2 : Int32) : Option (Nat × Int32) := (fcJ_needTwoCalls u p1 p2).bind fun v1 => if v1 = 0 then (ck (if p1 < p2 then p2 else p1) 121 <| gl (u.2 8 (if p1 < p2 then p2 else p1).toNatClampNeg) fun w2 => ck p1 121 <| ck p2 121 <| (fcU_weigh u w2 ((u.2 10 p1.toNatClampNeg) ||| (u.2 10 p2.toNatClampNeg))).bind fun v3 => if ¬ v3 = 0 then (ck p1 121 <| ck p2 121 <| (fcU_weigh u w2 ((u.2 10 p1.toNatClampNeg) &&& (u.2 10 p2.toNatClampNeg))).bind fun v4 => if v3 = 0 then none else some (0, (((1000 : Int32) * v4) / v3))) else some (5, (0 : Int32))) else some (v1, (0 : Int32))
def fcJ_agree (u : g_S) (p1 : Int32) (p2 : Int32) : Option (Nat × Int32) := (fcJ_needTwoCalls u p1 p2).bind fun v1 => if v1 = 0 then ((fcJ_agreement u (if p2 < p1 then p2 else p1) (if p1 < p2 then p2 else p1)).bind fun v2 => some (0, v2)) else some (v1, (0 : Int32))
def fcJ_callAt_27 (u : g_S) (x1 : Int32) (x2 : Int32) (y0 : Int32) : Option (Nat × Int32) := (fcJ_needKnown y0).bind fun v2 => if v2 = 0 then (if x2 = (0 : Int32) then (ck x1 121 <| some (0, (u.2 13 x1.toNatClampNeg))) else if x2 = (1 : Int32) then (ck x1 121 <| some (0, (u.2 14 x1.toNatClampNeg))) else if x2 = (2 : Int32) then (ck x1 121 <| some (0, (u.2 16 x1.toNatClampNeg))) else if x2 = (3 : Int32) then (ck x1 121 <| some (0, (u.2 8 x1.toNatClampNeg))) else ck x1 121 <| some (0, (u.2 15 x1.toNatClampNeg))) else some (v2, (0 : Int32))
def fcJ_callAt (u : g_S) (p1 : Int32) (p2 : Int32) : Option (Nat × Int32) := (fcJ_isBelow p1 (u.1 0)).bind fun v1 => if v1 = 0 then (fcJ_callAt_27 u p1 p2 (0 : Int32)) else (fcJ_isBelow p2 (5 : Int32)).bind fun v3 => if v3 = 0 then (fcJ_callAt_27 u p1 p2 (0 : Int32)) else fcJ_callAt_27 u p1 p2 (1 : Int32)
def fcA_weighCall_16 (u : g_S) (x1 : Int32) (x2 : Int32) : Option (Int32) := ck x1 121 <| if (u.2 9 x1.toNatClampNeg) = (-1 : Int32) then (some x2) else some (x2 + (1 : Int32))
def fcA_weighCall (u : g_S) (p1 : Int32) : Option (Int32) := ck p1 121 <| if ((u.2 16 p1.toNatClampNeg) &&& (1 : Int32)) = 0 then (fcA_weighCall_16 u p1 (4 : Int32)) else fcA_weighCall_16 u p1 ((4 : Int32) + (-2 : Int32))
def fcA_weighEvent_4 (u : g_S) : Nat → Int32 → Int32 → Int32 → Option (Int32)
  | 0, _, _, _ => none
  | n + 1, x1, x2, x3 => if (u.1 0) ≤ x3 then (some x2) else ck x3 121 <| if ¬ (u.2 13 x3.toNatClampNeg) = x1 then (fcA_weighEvent_4 u n x1 x2 (x3 + (1 : Int32))) else (fcA_isHoax u x3).bind fun v1 => if ¬ v1 = 0 then (fcA_weighEvent_4 u n x1 x2 (x3 + (1 : Int32))) else (fcA_weighCall u x3).bind fun v2 => gl (x2 + v2) fun w3 => fcA_weighEvent_4 u n x1 w3 (x3 + (1 : Int32))
def fcA_weighEvent (u : g_S) (p1 : Int32) : Option (Int32) := fcA_weighEvent_4 u 200 p1 (0 : Int32) (0 : Int32)
theorem fcA_weighEvent_4_s (u : g_S) (n : Nat) (x1 : Int32) (x2 : Int32) (x3 : Int32) : fcA_weighEvent_4 u (n + 1) x1 x2 x3 = (if (u.1 0) ≤ x3 then (some x2) else ck x3 121 <| if ¬ (u.2 13 x3.toNatClampNeg) = x1 then (fcA_weighEvent_4 u n x1 x2 (x3 + (1 : Int32))) else (fcA_isHoax u x3).bind fun v1 => if ¬ v1 = 0 then (fcA_weighEvent_4 u n x1 x2 (x3 + (1 : Int32))) else (fcA_weighCall u x3).bind fun v2 => gl (x2 + v2) fun w3 => fcA_weighEvent_4 u n x1 w3 (x3 + (1 : Int32))) := rfl
def fcA_pointOf_2 (u : g_S) : Nat → Int32 → Int32 → Option (Int32)
  | 0, _, _ => none
  | n + 1, x1, x2 => if (u.1 0) ≤ x2 then (some (-1 : Int32)) else ck x2 121 <| if ¬ (u.2 13 x2.toNatClampNeg) = x1 then (fcA_pointOf_2 u n x1 (x2 + (1 : Int32))) else (fcA_isHoax u x2).bind fun v1 => if ¬ v1 = 0 then (fcA_pointOf_2 u n x1 (x2 + (1 : Int32))) else ck x2 121 <| if (u.2 9 x2.toNatClampNeg) = (-1 : Int32) then (fcA_pointOf_2 u n x1 (x2 + (1 : Int32))) else ck x2 121 <| some (u.2 9 x2.toNatClampNeg)
def fcA_pointOf (u : g_S) (p1 : Int32) : Option (Int32) := fcA_pointOf_2 u 200 p1 (0 : Int32)
theorem fcA_pointOf_2_s (u : g_S) (n : Nat) (x1 : Int32) (x2 : Int32) : fcA_pointOf_2 u (n + 1) x1 x2 = (if (u.1 0) ≤ x2 then (some (-1 : Int32)) else ck x2 121 <| if ¬ (u.2 13 x2.toNatClampNeg) = x1 then (fcA_pointOf_2 u n x1 (x2 + (1 : Int32))) else (fcA_isHoax u x2).bind fun v1 => if ¬ v1 = 0 then (fcA_pointOf_2 u n x1 (x2 + (1 : Int32))) else ck x2 121 <| if (u.2 9 x2.toNatClampNeg) = (-1 : Int32) then (fcA_pointOf_2 u n x1 (x2 + (1 : Int32))) else ck x2 121 <| some (u.2 9 x2.toNatClampNeg)) := rfl
def fcA_latestTimeOf_7 (u : g_S) : Nat → Int32 → Int32 → Option (Int32)
  | 0, _, _ => none
  | n + 1, x1, x2 => if x2 < 0 then (some (-1 : Int32)) else ck x2 121 <| if ¬ (u.2 13 x2.toNatClampNeg) = x1 then (fcA_latestTimeOf_7 u n x1 (x2 + (-1 : Int32))) else ck x2 121 <| some (u.2 12 x2.toNatClampNeg)
def fcA_latestTimeOf (u : g_S) (p1 : Int32) : Option (Int32) := gl ((u.1 0) - (1 : Int32)) fun w1 => fcA_latestTimeOf_7 u 200 p1 w1
theorem fcA_latestTimeOf_7_s (u : g_S) (n : Nat) (x1 : Int32) (x2 : Int32) : fcA_latestTimeOf_7 u (n + 1) x1 x2 = (if x2 < 0 then (some (-1 : Int32)) else ck x2 121 <| if ¬ (u.2 13 x2.toNatClampNeg) = x1 then (fcA_latestTimeOf_7 u n x1 (x2 + (-1 : Int32))) else ck x2 121 <| some (u.2 12 x2.toNatClampNeg)) := rfl
def fcJ_eventAt_28 (u : g_S) (x1 : Int32) (x2 : Int32) (y0 : Int32) : Option (Nat × Int32) := (fcJ_needKnown y0).bind fun v2 => if v2 = 0 then (if x2 = (0 : Int32) then (ck x1 60 <| some (0, (u.2 17 x1.toNatClampNeg))) else if x2 = (1 : Int32) then ((fcA_countIn u x1).bind fun v3 => some (0, v3)) else if x2 = (2 : Int32) then (ck x1 60 <| some (0, (u.2 18 x1.toNatClampNeg))) else if x2 = (3 : Int32) then ((fcA_weighEvent u x1).bind fun v4 => some (0, v4)) else if x2 = (4 : Int32) then ((fcA_pointOf u x1).bind fun v5 => some (0, v5)) else if x2 = (5 : Int32) then (ck x1 60 <| some (0, (u.2 19 x1.toNatClampNeg))) else (fcA_latestTimeOf u x1).bind fun v6 => some (0, v6)) else some (v2, (0 : Int32))
def fcJ_eventAt (u : g_S) (p1 : Int32) (p2 : Int32) : Option (Nat × Int32) := (fcJ_isBelow p1 (u.1 1)).bind fun v1 => if v1 = 0 then (fcJ_eventAt_28 u p1 p2 (0 : Int32)) else (fcJ_isBelow p2 (7 : Int32)).bind fun v7 => if v7 = 0 then (fcJ_eventAt_28 u p1 p2 (0 : Int32)) else fcJ_eventAt_28 u p1 p2 (1 : Int32)
def fcA_memberOf_5 (u : g_S) : Nat → Int32 → Int32 → Int32 → Int32 → Option (Int32)
  | 0, _, _, _, _ => none
  | n + 1, x1, x2, x3, x4 => if (u.1 0) ≤ x4 then (some (-1 : Int32)) else ck x4 121 <| if ¬ (u.2 13 x4.toNatClampNeg) = x1 then (fcA_memberOf_5 u n x1 x2 x3 (x4 + (1 : Int32))) else if ¬ x3 = x2 then (fcA_memberOf_5 u n x1 x2 (x3 + (1 : Int32)) (x4 + (1 : Int32))) else some x4
def fcA_memberOf (u : g_S) (p1 : Int32) (p2 : Int32) : Option (Int32) := fcA_memberOf_5 u 200 p1 p2 (0 : Int32) (0 : Int32)
theorem fcA_memberOf_5_s (u : g_S) (n : Nat) (x1 : Int32) (x2 : Int32) (x3 : Int32) (x4 : Int32) : fcA_memberOf_5 u (n + 1) x1 x2 x3 x4 = (if (u.1 0) ≤ x4 then (some (-1 : Int32)) else ck x4 121 <| if ¬ (u.2 13 x4.toNatClampNeg) = x1 then (fcA_memberOf_5 u n x1 x2 x3 (x4 + (1 : Int32))) else if ¬ x3 = x2 then (fcA_memberOf_5 u n x1 x2 (x3 + (1 : Int32)) (x4 + (1 : Int32))) else some x4) := rfl
def fcJ_member (u : g_S) (p1 : Int32) (p2 : Int32) : Option (Nat × Int32) := (fcJ_isBelow p1 (u.1 1)).bind fun v1 => (fcJ_needKnown v1).bind fun v2 => if v2 = 0 then ((fcA_memberOf u p1 p2).bind fun v3 => if v3 = (-1 : Int32) then ((fcJ_needRange (0 : Int32)).bind fun v4 => if v4 = 0 then (some (0, v3)) else some (v4, (0 : Int32))) else (fcJ_needRange (1 : Int32)).bind fun v5 => if v5 = 0 then (some (0, v3)) else some (v5, (0 : Int32))) else some (v2, (0 : Int32))
def fcE_countOpen_4 (u : g_S) : Nat → Int32 → Int32 → Option (Int32)
  | 0, _, _ => none
  | n + 1, x1, x2 => if (u.1 1) ≤ x2 then (some x1) else ck x2 60 <| if ¬ (u.2 17 x2.toNatClampNeg) = 0 then (fcE_countOpen_4 u n x1 (x2 + (1 : Int32))) else fcE_countOpen_4 u n (x1 + (1 : Int32)) (x2 + (1 : Int32))
def fcE_countOpen (u : g_S)  : Option (Int32) := fcE_countOpen_4 u 200 (0 : Int32) (0 : Int32)
theorem fcE_countOpen_4_s (u : g_S) (n : Nat) (x1 : Int32) (x2 : Int32) : fcE_countOpen_4 u (n + 1) x1 x2 = (if (u.1 1) ≤ x2 then (some x1) else ck x2 60 <| if ¬ (u.2 17 x2.toNatClampNeg) = 0 then (fcE_countOpen_4 u n x1 (x2 + (1 : Int32))) else fcE_countOpen_4 u n (x1 + (1 : Int32)) (x2 + (1 : Int32))) := rfl
def fcA_countHoaxes_4 (u : g_S) : Nat → Int32 → Int32 → Option (Int32)
  | 0, _, _ => none
  | n + 1, x1, x2 => if (u.1 0) ≤ x2 then (some x1) else (fcA_isHoax u x2).bind fun v1 => if v1 = 0 then (fcA_countHoaxes_4 u n x1 (x2 + (1 : Int32))) else fcA_countHoaxes_4 u n (x1 + (1 : Int32)) (x2 + (1 : Int32))
def fcA_countHoaxes (u : g_S)  : Option (Int32) := fcA_countHoaxes_4 u 200 (0 : Int32) (0 : Int32)
theorem fcA_countHoaxes_4_s (u : g_S) (n : Nat) (x1 : Int32) (x2 : Int32) : fcA_countHoaxes_4 u (n + 1) x1 x2 = (if (u.1 0) ≤ x2 then (some x1) else (fcA_isHoax u x2).bind fun v1 => if v1 = 0 then (fcA_countHoaxes_4 u n x1 (x2 + (1 : Int32))) else fcA_countHoaxes_4 u n (x1 + (1 : Int32)) (x2 + (1 : Int32))) := rfl
def fcJ_count (u : g_S) (p1 : Int32) : Option (Nat × Int32) := (fcJ_isBelow p1 (4 : Int32)).bind fun v1 => (fcJ_needKnown v1).bind fun v2 => if v2 = 0 then (if p1 = (0 : Int32) then (some (0, (u.1 0))) else if p1 = (1 : Int32) then (some (0, (u.1 1))) else if p1 = (2 : Int32) then ((fcE_countOpen u ).bind fun v3 => some (0, v3)) else (fcA_countHoaxes u ).bind fun v4 => some (0, v4)) else some (v2, (0 : Int32))
def fm_thrown (u : g_S)  : Option (Int32) := some (u.1 0)
def fm_throwing_26 (u : g_S) (y1 : Int32) : Option (Int32 × g_S) := gl (g_sI u 0 y1) fun u1 => if (u1.1 0) ≤ 0 then (some ((0 : Int32), u1)) else some ((1 : Int32), u1)
def fm_throwing (u : g_S) (p1 : Int32) (p2 : Int32) (p3 : Int32) : Option (Int32 × g_S) := if p1 = 0 then (if p2 = 0 then (if p3 = 0 then (fm_throwing_26 u (0 : Int32)) else fm_throwing_26 u (3 : Int32)) else fm_throwing_26 u (2 : Int32)) else fm_throwing_26 u (1 : Int32)
def fm_in (p0 : Int32) (p1 : Int32) (p2 : Int32) : Option (Int32) := if p0 < p1 then (some (0 : Int32)) else if p2 < p0 then (some (0 : Int32)) else some (1 : Int32)
def fm_isKind (p0 : Int32) : Option (Int32) := (fm_in p0 (0 : Int32) (7 : Int32)).bind fun v1 => if v1 = 0 ∨ v1 = 1 then some v1 else none
def fm_isRoad (p0 : Int32) : Option (Int32) := (fm_in p0 (0 : Int32) (7 : Int32)).bind fun v1 => if v1 = 0 ∨ v1 = 1 then some v1 else none
def fm_isCall (u : g_S) (p1 : Int32) : Option (Int32) := (fm_in p1 (0 : Int32) ((u.1 1) - (1 : Int32))).bind fun v1 => if v1 = 0 ∨ v1 = 1 then some v1 else none
def fm_isEvent (u : g_S) (p1 : Int32) : Option (Int32) := (fm_in p1 (0 : Int32) ((u.1 2) - (1 : Int32))).bind fun v1 => if v1 = 0 ∨ v1 = 1 then some v1 else none
def fm_isPoint (p0 : Int32) : Option (Int32) := (fm_in p0 (0 : Int32) (99999999 : Int32)).bind fun v1 => if v1 = 0 ∨ v1 = 1 then some v1 else none
def fm_rule_63 (u : g_S) (x1 : Int32) (x2 : Int32) (x3 : Int32) (x4 : Int32) (x5 : Int32) (x6 : Int32) (y1 : Int32) : Option (g_S) := (fm_throwing u y1 x6 (0 : Int32)).bind fun v3 => if v3.1 = 0 then (ck x1 8 <| gl (g_sA v3.2 0 x1 x2) fun u4 => ck x1 8 <| gl (g_sA u4 1 x1 x3) fun u5 => ck x1 8 <| gl (g_sA u5 2 x1 x4) fun u6 => ck x1 8 <| gl (g_sA u6 3 x1 x5) fun u7 => some u7) else some v3.2
def fm_rule_48 (u : g_S) (x1 : Int32) (x2 : Int32) (x3 : Int32) (x4 : Int32) (x5 : Int32) (y0 : Int32) : Option (g_S) := (fm_isKind x1).bind fun v2 => if ¬ v2 = 0 then (fm_rule_63 u x1 x2 x3 x4 x5 y0 (0 : Int32)) else fm_rule_63 u x1 x2 x3 x4 x5 y0 (1 : Int32)
def fm_rule (u : g_S) (p1 : Int32) (p2 : Int32) (p3 : Int32) (p4 : Int32) (p5 : Int32) : Option (g_S) := (fm_in p2 (0 : Int32) (20000 : Int32)).bind fun v1 => if v1 = 0 then (fm_rule_48 u p1 p2 p3 p4 p5 (1 : Int32)) else (fm_in p3 (0 : Int32) (100000 : Int32)).bind fun v8 => if v8 = 0 then (fm_rule_48 u p1 p2 p3 p4 p5 (1 : Int32)) else (fm_in p4 (0 : Int32) (100 : Int32)).bind fun v9 => if v9 = 0 then (fm_rule_48 u p1 p2 p3 p4 p5 (1 : Int32)) else (fm_in p5 (1 : Int32) (100 : Int32)).bind fun v10 => if ¬ v10 = 0 then (fm_rule_48 u p1 p2 p3 p4 p5 (0 : Int32)) else fm_rule_48 u p1 p2 p3 p4 p5 (1 : Int32)
def fm_weight_38 (u : g_S) (x1 : Int32) (x2 : Int32) (x3 : Int32) (y1 : Int32) (y2 : Int32) : Option (g_S) := (fm_throwing u y1 y2 (0 : Int32)).bind fun v3 => if v3.1 = 0 then (ck (((32 : Int32) * x1) + x2) 256 <| gl (g_sA v3.2 4 (((32 : Int32) * x1) + x2) x3) fun u4 => some u4) else some v3.2
def fm_weight_23 (u : g_S) (x1 : Int32) (x2 : Int32) (x3 : Int32) (y1 : Int32) : Option (g_S) := (fm_in x3 (0 : Int32) (100 : Int32)).bind fun v2 => if ¬ v2 = 0 then (fm_weight_38 u x1 x2 x3 y1 (0 : Int32)) else fm_weight_38 u x1 x2 x3 y1 (1 : Int32)
def fm_weight (u : g_S) (p1 : Int32) (p2 : Int32) (p3 : Int32) : Option (g_S) := (fm_isKind p1).bind fun v1 => if v1 = 0 then (fm_weight_23 u p1 p2 p3 (1 : Int32)) else (fm_in p2 (0 : Int32) (31 : Int32)).bind fun v5 => if ¬ v5 = 0 then (fm_weight_23 u p1 p2 p3 (0 : Int32)) else fm_weight_23 u p1 p2 p3 (1 : Int32)
def fm_point_59 (u : g_S) (x1 : Int32) (x2 : Int32) (y1 : Int32) (y2 : Int32) (y3 : Int32) : Option (Int32 × g_S) := (fm_throwing u y1 y2 y3).bind fun v4 => if v4.1 = 0 then (ck x1 8 <| ck (((8 : Int32) * x1) + (v4.2.2 5 x1.toNatClampNeg)) 64 <| gl (g_sA v4.2 6 (((8 : Int32) * x1) + (v4.2.2 5 x1.toNatClampNeg)) x2) fun u5 => ck x1 8 <| ck x1 8 <| gl (g_sA u5 5 x1 ((u5.2 5 x1.toNatClampNeg) + (1 : Int32))) fun u6 => ck x1 8 <| some ((u6.2 5 x1.toNatClampNeg), u6)) else some ((0 : Int32), v4.2)
def fm_point_48 (u : g_S) (x1 : Int32) (x2 : Int32) (y1 : Int32) (y2 : Int32) (y4 : Int32) : Option (Int32 × g_S) := ck y4 8 <| if ¬ (u.2 5 y4.toNatClampNeg) = (8 : Int32) then (fm_point_59 u x1 x2 y1 y2 (0 : Int32)) else fm_point_59 u x1 x2 y1 y2 (1 : Int32)
def fm_point_25 (u : g_S) (x1 : Int32) (x2 : Int32) (y1 : Int32) (y2 : Int32) : Option (Int32 × g_S) := (fm_isRoad x1).bind fun v3 => if v3 = 0 then (fm_point_59 u x1 x2 y1 y2 (0 : Int32)) else (fm_isRoad x1).bind fun v7 => if v7 = 0 then (fm_point_48 u x1 x2 y1 y2 (0 : Int32)) else fm_point_48 u x1 x2 y1 y2 x1
def fm_point_13 (u : g_S) (x1 : Int32) (x2 : Int32) (y1 : Int32) : Option (Int32 × g_S) := (fm_isPoint x2).bind fun v2 => if ¬ v2 = 0 then (fm_point_25 u x1 x2 y1 (0 : Int32)) else fm_point_25 u x1 x2 y1 (1 : Int32)
def fm_point (u : g_S) (p1 : Int32) (p2 : Int32) : Option (Int32 × g_S) := (fm_isRoad p1).bind fun v1 => if ¬ v1 = 0 then (fm_point_13 u p1 p2 (0 : Int32)) else fm_point_13 u p1 p2 (1 : Int32)
def fm_squareOf (p0 : Int32) (p1 : Int32) : Option (Int64) := gl (Int32.toInt64 ((p0 / (10000 : Int32)) - (p1 / (10000 : Int32)))) fun w1 => gl (Int32.toInt64 ((p0 - p0 / (10000 : Int32) * (10000 : Int32)) - (p1 - p1 / (10000 : Int32) * (10000 : Int32)))) fun w2 => some ((w1 * w1) + (w2 * w2))
def fm_sum_5 (u : g_S) : Nat → Int32 → Int32 → Int32 → Int32 → Option (Int32)
  | 0, _, _, _, _ => none
  | n + 1, x1, x2, x3, x4 => if (32 : Int32) ≤ x4 then (some x3) else if ¬ ((x1 >>> (x4 &&& 31)) &&& (1 : Int32)) = (1 : Int32) then (gl (x3 + (0 : Int32)) fun w1 => fm_sum_5 u n x1 x2 w1 (x4 + (1 : Int32))) else ck (((32 : Int32) * x2) + x4) 256 <| gl (x3 + (u.2 4 (((32 : Int32) * x2) + x4).toNatClampNeg)) fun w2 => fm_sum_5 u n x1 x2 w2 (x4 + (1 : Int32))
def fm_sum (u : g_S) (p1 : Int32) (p2 : Int32) : Option (Int32) := fm_sum_5 u 200 p1 p2 (0 : Int32) (0 : Int32)
theorem fm_sum_5_s (u : g_S) (n : Nat) (x1 : Int32) (x2 : Int32) (x3 : Int32) (x4 : Int32) : fm_sum_5 u (n + 1) x1 x2 x3 x4 = (if (32 : Int32) ≤ x4 then (some x3) else if ¬ ((x1 >>> (x4 &&& 31)) &&& (1 : Int32)) = (1 : Int32) then (gl (x3 + (0 : Int32)) fun w1 => fm_sum_5 u n x1 x2 w1 (x4 + (1 : Int32))) else ck (((32 : Int32) * x2) + x4) 256 <| gl (x3 + (u.2 4 (((32 : Int32) * x2) + x4).toNatClampNeg)) fun w2 => fm_sum_5 u n x1 x2 w2 (x4 + (1 : Int32))) := rfl
def fm_isEnough (u : g_S) (p1 : Int32) (p2 : Int32) (p3 : Int32) : Option (Int32) := (fm_sum u (p1 &&& p2) p3).bind fun v1 => ck p3 8 <| ck p3 8 <| (fm_sum u (p1 ||| p2) p3).bind fun v2 => if (v1 * (u.2 3 p3.toNatClampNeg)) < ((u.2 2 p3.toNatClampNeg) * v2) then (some (0 : Int32)) else some (1 : Int32)
def fm_meets_157 (u : g_S) (x1 : Int32) (x2 : Int32) (x4 : Int32) (x6 : Int32) : Option (Int32) := if x6 = 0 then (some (0 : Int32)) else ck x1 120 <| (fm_isEnough u (u.2 10 x1.toNatClampNeg) x4 x2).bind fun v2 => if v2 = 0 then (some (0 : Int32)) else some (2 : Int32)
def fm_meets_144 (u : g_S) (y0 : Int32) : Option (Int32) := if y0 = 0 then (some (0 : Int32)) else some (1 : Int32)
def fm_meets_46 (u : g_S) (x1 : Int32) (x2 : Int32) (x3 : Int32) (x4 : Int32) (y0 : Int32) : Option (Int32) := ck x1 120 <| if (u.2 9 x1.toNatClampNeg) < 0 then (fm_meets_157 u x1 x2 x4 y0) else if x3 < 0 then (fm_meets_157 u x1 x2 x4 y0) else ck x1 120 <| (fm_squareOf (u.2 9 x1.toNatClampNeg) x3).bind fun v3 => ck x2 8 <| ck x2 8 <| gl ((Int32.toInt64 (u.2 0 x2.toNatClampNeg)) * (Int32.toInt64 (u.2 0 x2.toNatClampNeg))) fun w4 => if y0 = 0 then (if 0 < (lg_cmp ((4 : Int64) * v3) w4) then (fm_meets_144 u (0 : Int32)) else fm_meets_144 u (1 : Int32)) else if 0 < (lg_cmp v3 w4) then (fm_meets_144 u (0 : Int32)) else ck x1 120 <| (fm_isEnough u (u.2 10 x1.toNatClampNeg) x4 x2).bind fun v5 => if v5 = 0 then (fm_meets_144 u (0 : Int32)) else fm_meets_144 u (1 : Int32)
def fm_meets (u : g_S) (p1 : Int32) (p2 : Int32) (p3 : Int32) (p4 : Int32) (p5 : Int32) : Option (Int32) := ck p1 120 <| ck p2 8 <| if (lg_cmp ((Int32.toInt64 p5) - (Int32.toInt64 (u.2 11 p1.toNatClampNeg))) (Int32.toInt64 (u.2 1 p2.toNatClampNeg))) ≤ 0 then (ck p1 120 <| (fm_sum u ((u.2 10 p1.toNatClampNeg) ||| p4) p2).bind fun v1 => if v1 ≤ 0 then (fm_meets_46 u p1 p2 p3 p4 (0 : Int32)) else fm_meets_46 u p1 p2 p3 p4 (1 : Int32)) else some (0 : Int32)
def fm_isOpen (u : g_S) (p1 : Int32) : Option (Int32) := ck p1 120 <| ck (u.2 12 p1.toNatClampNeg) 60 <| if ¬ (u.2 16 (u.2 12 p1.toNatClampNeg).toNatClampNeg) = 0 then (some (0 : Int32)) else some (1 : Int32)
def fm_isHoax (u : g_S) (p1 : Int32) : Option (Int32) := ck p1 120 <| if ((u.2 14 p1.toNatClampNeg) &&& (4 : Int32)) = 0 then (some (0 : Int32)) else some (1 : Int32)
def fm_firstOf_2 (u : g_S) : Nat → Int32 → Int32 → Option (Int32)
  | 0, _, _ => none
  | n + 1, x1, x2 => if (u.1 1) ≤ x2 then (some (-1 : Int32)) else ck x2 120 <| if ¬ (u.2 12 x2.toNatClampNeg) = x1 then (fm_firstOf_2 u n x1 (x2 + (1 : Int32))) else ck x2 120 <| if 0 ≤ (u.2 13 x2.toNatClampNeg) then (fm_firstOf_2 u n x1 (x2 + (1 : Int32))) else some x2
def fm_firstOf (u : g_S) (p1 : Int32) : Option (Int32) := fm_firstOf_2 u 200 p1 (0 : Int32)
theorem fm_firstOf_2_s (u : g_S) (n : Nat) (x1 : Int32) (x2 : Int32) : fm_firstOf_2 u (n + 1) x1 x2 = (if (u.1 1) ≤ x2 then (some (-1 : Int32)) else ck x2 120 <| if ¬ (u.2 12 x2.toNatClampNeg) = x1 then (fm_firstOf_2 u n x1 (x2 + (1 : Int32))) else ck x2 120 <| if 0 ≤ (u.2 13 x2.toNatClampNeg) then (fm_firstOf_2 u n x1 (x2 + (1 : Int32))) else some x2) := rfl
def fm_isBeside (p0 : Int32) (p1 : Int32) (p2 : Int32) : Option (Int32) := gl (Int32.toInt64 ((p0 / (10000 : Int32)) - (p1 / (10000 : Int32)))) fun w1 => gl (Int32.toInt64 ((p0 - p0 / (10000 : Int32) * (10000 : Int32)) - (p1 - p1 / (10000 : Int32) * (10000 : Int32)))) fun w2 => gl (Int32.toInt64 ((p2 / (10000 : Int32)) - (p1 / (10000 : Int32)))) fun w3 => gl (Int32.toInt64 ((p2 - p2 / (10000 : Int32) * (10000 : Int32)) - (p1 - p1 / (10000 : Int32) * (10000 : Int32)))) fun w4 => gl ((w1 * w3) + (w2 * w4)) fun w5 => gl ((w3 * w3) + (w4 * w4)) fun w6 => if 0 < (lg_cmp w5 (0 : Int64)) then (if (lg_cmp w5 w6) < 0 then (gl ((w1 * w4) - (w2 * w3)) fun w7 => if 0 < (lg_cmp (w7 * w7) ((2500 : Int64) * w6)) then (some (0 : Int32)) else some (1 : Int32)) else (fm_squareOf p0 p2).bind fun v8 => if 0 < (lg_cmp v8 (2500 : Int64)) then (some (0 : Int32)) else some (1 : Int32)) else if 0 < (lg_cmp ((w1 * w1) + (w2 * w2)) (2500 : Int64)) then (some (0 : Int32)) else some (1 : Int32)
def fm_isOn_77 (u : g_S) : Nat → Int32 → Int32 → Int32 → Int32 → Int32 → Option (Int32)
  | 0, _, _, _, _, _ => none
  | n + 1, x1, x2, x5, x6, x7 => if x5 ≤ x7 then (if x6 = 0 ∨ x6 = 1 then some x6 else none) else if ¬ x6 = 0 then (fm_isOn_77 u n x1 x2 x5 (1 : Int32) (x7 + (1 : Int32))) else ck x1 60 <| ck (((8 : Int32) * (u.2 17 x1.toNatClampNeg)) + x7) 64 <| ck x1 60 <| ck ((((8 : Int32) * (u.2 17 x1.toNatClampNeg)) + x7) + (1 : Int32)) 64 <| (fm_isBeside x2 (u.2 6 (((8 : Int32) * (u.2 17 x1.toNatClampNeg)) + x7).toNatClampNeg) (u.2 6 ((((8 : Int32) * (u.2 17 x1.toNatClampNeg)) + x7) + (1 : Int32)).toNatClampNeg)).bind fun v2 => if v2 = 0 then (fm_isOn_77 u n x1 x2 x5 (0 : Int32) (x7 + (1 : Int32))) else fm_isOn_77 u n x1 x2 x5 (1 : Int32) (x7 + (1 : Int32))
def fm_isOn_50 (u : g_S) (x1 : Int32) (x2 : Int32) (y0 : Int32) : Option (Int32) := ck x1 60 <| ck x1 60 <| gl (((u.2 18 x1.toNatClampNeg) + (u.2 19 x1.toNatClampNeg)) - y0) fun w1 => fm_isOn_77 u 200 x1 x2 w1 (0 : Int32) y0
def fm_isOn (u : g_S) (p1 : Int32) (p2 : Int32) (p3 : Int32) : Option (Int32) := if 0 ≤ p2 then (ck p1 60 <| ck p1 60 <| if (u.2 19 p1.toNatClampNeg) ≤ (u.2 18 p1.toNatClampNeg) then (ck p1 60 <| fm_isOn_50 u p1 p2 (u.2 19 p1.toNatClampNeg)) else ck p1 60 <| fm_isOn_50 u p1 p2 (u.2 18 p1.toNatClampNeg)) else ck p1 60 <| if ¬ p3 = (u.2 17 p1.toNatClampNeg) then (some (0 : Int32)) else some (1 : Int32)
theorem fm_isOn_77_s (u : g_S) (n : Nat) (x1 : Int32) (x2 : Int32) (x5 : Int32) (x6 : Int32) (x7 : Int32) : fm_isOn_77 u (n + 1) x1 x2 x5 x6 x7 = (if x5 ≤ x7 then (if x6 = 0 ∨ x6 = 1 then some x6 else none) else if ¬ x6 = 0 then (fm_isOn_77 u n x1 x2 x5 (1 : Int32) (x7 + (1 : Int32))) else ck x1 60 <| ck (((8 : Int32) * (u.2 17 x1.toNatClampNeg)) + x7) 64 <| ck x1 60 <| ck ((((8 : Int32) * (u.2 17 x1.toNatClampNeg)) + x7) + (1 : Int32)) 64 <| (fm_isBeside x2 (u.2 6 (((8 : Int32) * (u.2 17 x1.toNatClampNeg)) + x7).toNatClampNeg) (u.2 6 ((((8 : Int32) * (u.2 17 x1.toNatClampNeg)) + x7) + (1 : Int32)).toNatClampNeg)).bind fun v2 => if v2 = 0 then (fm_isOn_77 u n x1 x2 x5 (0 : Int32) (x7 + (1 : Int32))) else fm_isOn_77 u n x1 x2 x5 (1 : Int32) (x7 + (1 : Int32))) := rfl
def fm_again_6 (u : g_S) : Nat → Int32 → Int32 → Int32 → Int32 → Int32 → Option (Int32)
  | 0, _, _, _, _, _ => none
  | n + 1, x1, x2, x3, x4, x5 => if (u.1 1) ≤ x5 then (if x4 < 0 then (some (-1 : Int32)) else ck x4 120 <| ck x2 8 <| if 0 < (lg_cmp ((Int32.toInt64 x3) - (Int32.toInt64 (u.2 11 x4.toNatClampNeg))) (Int32.toInt64 (u.2 1 x2.toNatClampNeg))) then (some (-1 : Int32)) else some x4) else ck x5 120 <| if ¬ (u.2 7 x5.toNatClampNeg) = x1 then (fm_again_6 u n x1 x2 x3 x4 (x5 + (1 : Int32))) else (fm_isOpen u x5).bind fun v1 => if v1 = 0 then (fm_again_6 u n x1 x2 x3 x4 (x5 + (1 : Int32))) else (fm_isHoax u x5).bind fun v2 => if ¬ v2 = 0 then (fm_again_6 u n x1 x2 x3 x4 (x5 + (1 : Int32))) else fm_again_6 u n x1 x2 x3 x5 (x5 + (1 : Int32))
def fm_again (u : g_S) (p1 : Int32) (p2 : Int32) (p3 : Int32) : Option (Int32) := fm_again_6 u 200 p1 p2 p3 (-1 : Int32) (0 : Int32)
theorem fm_again_6_s (u : g_S) (n : Nat) (x1 : Int32) (x2 : Int32) (x3 : Int32) (x4 : Int32) (x5 : Int32) : fm_again_6 u (n + 1) x1 x2 x3 x4 x5 = (if (u.1 1) ≤ x5 then (if x4 < 0 then (some (-1 : Int32)) else ck x4 120 <| ck x2 8 <| if 0 < (lg_cmp ((Int32.toInt64 x3) - (Int32.toInt64 (u.2 11 x4.toNatClampNeg))) (Int32.toInt64 (u.2 1 x2.toNatClampNeg))) then (some (-1 : Int32)) else some x4) else ck x5 120 <| if ¬ (u.2 7 x5.toNatClampNeg) = x1 then (fm_again_6 u n x1 x2 x3 x4 (x5 + (1 : Int32))) else (fm_isOpen u x5).bind fun v1 => if v1 = 0 then (fm_again_6 u n x1 x2 x3 x4 (x5 + (1 : Int32))) else (fm_isHoax u x5).bind fun v2 => if ¬ v2 = 0 then (fm_again_6 u n x1 x2 x3 x4 (x5 + (1 : Int32))) else fm_again_6 u n x1 x2 x3 x5 (x5 + (1 : Int32))) := rfl
def fm_onStretch_3 (u : g_S) : Nat → Int32 → Int32 → Int32 → Int32 → Option (Int32)
  | 0, _, _, _, _ => none
  | n + 1, x1, x2, x3, x4 => if (u.1 2) ≤ x4 then (some (-1 : Int32)) else ck x4 60 <| if ¬ (u.2 16 x4.toNatClampNeg) = 0 then (if (0 : Int32) = 0 then (fm_onStretch_3 u n x1 x2 x3 (x4 + (1 : Int32))) else (fm_isOn u x4 x2 x3).bind fun v1 => if v1 = 0 then (fm_onStretch_3 u n x1 x2 x3 (x4 + (1 : Int32))) else (fm_firstOf u x4).bind fun v2 => some v2) else ck x4 60 <| if (u.2 17 x4.toNatClampNeg) < 0 then (if (0 : Int32) = 0 then (fm_onStretch_3 u n x1 x2 x3 (x4 + (1 : Int32))) else (fm_isOn u x4 x2 x3).bind fun v3 => if v3 = 0 then (fm_onStretch_3 u n x1 x2 x3 (x4 + (1 : Int32))) else (fm_firstOf u x4).bind fun v4 => some v4) else (fm_firstOf u x4).bind fun v5 => ck v5 120 <| if ¬ (u.2 8 v5.toNatClampNeg) = x1 then (if (0 : Int32) = 0 then (fm_onStretch_3 u n x1 x2 x3 (x4 + (1 : Int32))) else (fm_isOn u x4 x2 x3).bind fun v6 => if v6 = 0 then (fm_onStretch_3 u n x1 x2 x3 (x4 + (1 : Int32))) else (fm_firstOf u x4).bind fun v7 => some v7) else if (1 : Int32) = 0 then (fm_onStretch_3 u n x1 x2 x3 (x4 + (1 : Int32))) else (fm_isOn u x4 x2 x3).bind fun v8 => if v8 = 0 then (fm_onStretch_3 u n x1 x2 x3 (x4 + (1 : Int32))) else (fm_firstOf u x4).bind fun v9 => some v9
def fm_onStretch (u : g_S) (p1 : Int32) (p2 : Int32) (p3 : Int32) : Option (Int32) := fm_onStretch_3 u 200 p1 p2 p3 (0 : Int32)
theorem fm_onStretch_3_s (u : g_S) (n : Nat) (x1 : Int32) (x2 : Int32) (x3 : Int32) (x4 : Int32) : fm_onStretch_3 u (n + 1) x1 x2 x3 x4 = (if (u.1 2) ≤ x4 then (some (-1 : Int32)) else ck x4 60 <| if ¬ (u.2 16 x4.toNatClampNeg) = 0 then (if (0 : Int32) = 0 then (fm_onStretch_3 u n x1 x2 x3 (x4 + (1 : Int32))) else (fm_isOn u x4 x2 x3).bind fun v1 => if v1 = 0 then (fm_onStretch_3 u n x1 x2 x3 (x4 + (1 : Int32))) else (fm_firstOf u x4).bind fun v2 => some v2) else ck x4 60 <| if (u.2 17 x4.toNatClampNeg) < 0 then (if (0 : Int32) = 0 then (fm_onStretch_3 u n x1 x2 x3 (x4 + (1 : Int32))) else (fm_isOn u x4 x2 x3).bind fun v3 => if v3 = 0 then (fm_onStretch_3 u n x1 x2 x3 (x4 + (1 : Int32))) else (fm_firstOf u x4).bind fun v4 => some v4) else (fm_firstOf u x4).bind fun v5 => ck v5 120 <| if ¬ (u.2 8 v5.toNatClampNeg) = x1 then (if (0 : Int32) = 0 then (fm_onStretch_3 u n x1 x2 x3 (x4 + (1 : Int32))) else (fm_isOn u x4 x2 x3).bind fun v6 => if v6 = 0 then (fm_onStretch_3 u n x1 x2 x3 (x4 + (1 : Int32))) else (fm_firstOf u x4).bind fun v7 => some v7) else if (1 : Int32) = 0 then (fm_onStretch_3 u n x1 x2 x3 (x4 + (1 : Int32))) else (fm_isOn u x4 x2 x3).bind fun v8 => if v8 = 0 then (fm_onStretch_3 u n x1 x2 x3 (x4 + (1 : Int32))) else (fm_firstOf u x4).bind fun v9 => some v9) := rfl
def fm_isBetter_61 (u : g_S) (x1 : Int32) (x2 : Int32) (x3 : Int32) (x5 : Int32) : Option (Int32) := ck x1 120 <| (fm_sum u ((u.2 10 x1.toNatClampNeg) &&& x5) x3).bind fun v1 => ck x2 120 <| (fm_sum u ((u.2 10 x2.toNatClampNeg) ||| x5) x3).bind fun v2 => ck x2 120 <| (fm_sum u ((u.2 10 x2.toNatClampNeg) &&& x5) x3).bind fun v3 => ck x1 120 <| (fm_sum u ((u.2 10 x1.toNatClampNeg) ||| x5) x3).bind fun v4 => if (v1 * v2) ≤ (v3 * v4) then (some (0 : Int32)) else some (1 : Int32)
def fm_isBetter (u : g_S) (p1 : Int32) (p2 : Int32) (p3 : Int32) (p4 : Int32) (p5 : Int32) : Option (Int32) := if 0 ≤ p2 then (if p4 < 0 then (fm_isBetter_61 u p1 p2 p3 p5) else ck p1 120 <| if (u.2 9 p1.toNatClampNeg) < 0 then (fm_isBetter_61 u p1 p2 p3 p5) else ck p2 120 <| if (u.2 9 p2.toNatClampNeg) < 0 then (fm_isBetter_61 u p1 p2 p3 p5) else ck p1 120 <| (fm_squareOf (u.2 9 p1.toNatClampNeg) p4).bind fun v5 => ck p2 120 <| (fm_squareOf (u.2 9 p2.toNatClampNeg) p4).bind fun v6 => if 0 ≤ (lg_cmp v5 v6) then (some (0 : Int32)) else some (1 : Int32)) else some (1 : Int32)
def fm_agreeing_6 (u : g_S) : Nat → Int32 → Int32 → Int32 → Int32 → Int32 → Int32 → Int32 → Option (Int32)
  | 0, _, _, _, _, _, _, _ => none
  | n + 1, x1, x2, x3, x4, x5, x6, x7 => if (u.1 1) ≤ x7 then (some x6) else ck x7 120 <| if ¬ (u.2 8 x7.toNatClampNeg) = x2 then (if (0 : Int32) = 0 then (fm_agreeing_6 u n x1 x2 x3 x4 x5 x6 (x7 + (1 : Int32))) else if ¬ x1 = (2 : Int32) then ((fm_isBetter u x7 x6 x2 x3 x4).bind fun v1 => if v1 = 0 then (fm_agreeing_6 u n x1 x2 x3 x4 x5 x6 (x7 + (1 : Int32))) else fm_agreeing_6 u n x1 x2 x3 x4 x5 x7 (x7 + (1 : Int32))) else (fm_isBetter u x7 x6 x2 (-1 : Int32) x4).bind fun v2 => if v2 = 0 then (fm_agreeing_6 u n x1 x2 x3 x4 x5 x6 (x7 + (1 : Int32))) else fm_agreeing_6 u n x1 x2 x3 x4 x5 x7 (x7 + (1 : Int32))) else (fm_isOpen u x7).bind fun v3 => if v3 = 0 then (if (0 : Int32) = 0 then (fm_agreeing_6 u n x1 x2 x3 x4 x5 x6 (x7 + (1 : Int32))) else if ¬ x1 = (2 : Int32) then ((fm_isBetter u x7 x6 x2 x3 x4).bind fun v4 => if v4 = 0 then (fm_agreeing_6 u n x1 x2 x3 x4 x5 x6 (x7 + (1 : Int32))) else fm_agreeing_6 u n x1 x2 x3 x4 x5 x7 (x7 + (1 : Int32))) else (fm_isBetter u x7 x6 x2 (-1 : Int32) x4).bind fun v5 => if v5 = 0 then (fm_agreeing_6 u n x1 x2 x3 x4 x5 x6 (x7 + (1 : Int32))) else fm_agreeing_6 u n x1 x2 x3 x4 x5 x7 (x7 + (1 : Int32))) else (fm_isHoax u x7).bind fun v6 => if ¬ v6 = 0 then (if (0 : Int32) = 0 then (fm_agreeing_6 u n x1 x2 x3 x4 x5 x6 (x7 + (1 : Int32))) else if ¬ x1 = (2 : Int32) then ((fm_isBetter u x7 x6 x2 x3 x4).bind fun v7 => if v7 = 0 then (fm_agreeing_6 u n x1 x2 x3 x4 x5 x6 (x7 + (1 : Int32))) else fm_agreeing_6 u n x1 x2 x3 x4 x5 x7 (x7 + (1 : Int32))) else (fm_isBetter u x7 x6 x2 (-1 : Int32) x4).bind fun v8 => if v8 = 0 then (fm_agreeing_6 u n x1 x2 x3 x4 x5 x6 (x7 + (1 : Int32))) else fm_agreeing_6 u n x1 x2 x3 x4 x5 x7 (x7 + (1 : Int32))) else (fm_meets u x7 x2 x3 x4 x5).bind fun v9 => if ¬ v9 = x1 then (if (0 : Int32) = 0 then (fm_agreeing_6 u n x1 x2 x3 x4 x5 x6 (x7 + (1 : Int32))) else if ¬ x1 = (2 : Int32) then ((fm_isBetter u x7 x6 x2 x3 x4).bind fun v10 => if v10 = 0 then (fm_agreeing_6 u n x1 x2 x3 x4 x5 x6 (x7 + (1 : Int32))) else fm_agreeing_6 u n x1 x2 x3 x4 x5 x7 (x7 + (1 : Int32))) else (fm_isBetter u x7 x6 x2 (-1 : Int32) x4).bind fun v11 => if v11 = 0 then (fm_agreeing_6 u n x1 x2 x3 x4 x5 x6 (x7 + (1 : Int32))) else fm_agreeing_6 u n x1 x2 x3 x4 x5 x7 (x7 + (1 : Int32))) else if (1 : Int32) = 0 then (fm_agreeing_6 u n x1 x2 x3 x4 x5 x6 (x7 + (1 : Int32))) else if ¬ x1 = (2 : Int32) then ((fm_isBetter u x7 x6 x2 x3 x4).bind fun v12 => if v12 = 0 then (fm_agreeing_6 u n x1 x2 x3 x4 x5 x6 (x7 + (1 : Int32))) else fm_agreeing_6 u n x1 x2 x3 x4 x5 x7 (x7 + (1 : Int32))) else (fm_isBetter u x7 x6 x2 (-1 : Int32) x4).bind fun v13 => if v13 = 0 then (fm_agreeing_6 u n x1 x2 x3 x4 x5 x6 (x7 + (1 : Int32))) else fm_agreeing_6 u n x1 x2 x3 x4 x5 x7 (x7 + (1 : Int32))
def fm_agreeing (u : g_S) (p1 : Int32) (p2 : Int32) (p3 : Int32) (p4 : Int32) (p5 : Int32) : Option (Int32) := fm_agreeing_6 u 200 p1 p2 p3 p4 p5 (-1 : Int32) (0 : Int32)
theorem fm_agreeing_6_s (u : g_S) (n : Nat) (x1 : Int32) (x2 : Int32) (x3 : Int32) (x4 : Int32) (x5 : Int32) (x6 : Int32) (x7 : Int32) : fm_agreeing_6 u (n + 1) x1 x2 x3 x4 x5 x6 x7 = (if (u.1 1) ≤ x7 then (some x6) else ck x7 120 <| if ¬ (u.2 8 x7.toNatClampNeg) = x2 then (if (0 : Int32) = 0 then (fm_agreeing_6 u n x1 x2 x3 x4 x5 x6 (x7 + (1 : Int32))) else if ¬ x1 = (2 : Int32) then ((fm_isBetter u x7 x6 x2 x3 x4).bind fun v1 => if v1 = 0 then (fm_agreeing_6 u n x1 x2 x3 x4 x5 x6 (x7 + (1 : Int32))) else fm_agreeing_6 u n x1 x2 x3 x4 x5 x7 (x7 + (1 : Int32))) else (fm_isBetter u x7 x6 x2 (-1 : Int32) x4).bind fun v2 => if v2 = 0 then (fm_agreeing_6 u n x1 x2 x3 x4 x5 x6 (x7 + (1 : Int32))) else fm_agreeing_6 u n x1 x2 x3 x4 x5 x7 (x7 + (1 : Int32))) else (fm_isOpen u x7).bind fun v3 => if v3 = 0 then (if (0 : Int32) = 0 then (fm_agreeing_6 u n x1 x2 x3 x4 x5 x6 (x7 + (1 : Int32))) else if ¬ x1 = (2 : Int32) then ((fm_isBetter u x7 x6 x2 x3 x4).bind fun v4 => if v4 = 0 then (fm_agreeing_6 u n x1 x2 x3 x4 x5 x6 (x7 + (1 : Int32))) else fm_agreeing_6 u n x1 x2 x3 x4 x5 x7 (x7 + (1 : Int32))) else (fm_isBetter u x7 x6 x2 (-1 : Int32) x4).bind fun v5 => if v5 = 0 then (fm_agreeing_6 u n x1 x2 x3 x4 x5 x6 (x7 + (1 : Int32))) else fm_agreeing_6 u n x1 x2 x3 x4 x5 x7 (x7 + (1 : Int32))) else (fm_isHoax u x7).bind fun v6 => if ¬ v6 = 0 then (if (0 : Int32) = 0 then (fm_agreeing_6 u n x1 x2 x3 x4 x5 x6 (x7 + (1 : Int32))) else if ¬ x1 = (2 : Int32) then ((fm_isBetter u x7 x6 x2 x3 x4).bind fun v7 => if v7 = 0 then (fm_agreeing_6 u n x1 x2 x3 x4 x5 x6 (x7 + (1 : Int32))) else fm_agreeing_6 u n x1 x2 x3 x4 x5 x7 (x7 + (1 : Int32))) else (fm_isBetter u x7 x6 x2 (-1 : Int32) x4).bind fun v8 => if v8 = 0 then (fm_agreeing_6 u n x1 x2 x3 x4 x5 x6 (x7 + (1 : Int32))) else fm_agreeing_6 u n x1 x2 x3 x4 x5 x7 (x7 + (1 : Int32))) else (fm_meets u x7 x2 x3 x4 x5).bind fun v9 => if ¬ v9 = x1 then (if (0 : Int32) = 0 then (fm_agreeing_6 u n x1 x2 x3 x4 x5 x6 (x7 + (1 : Int32))) else if ¬ x1 = (2 : Int32) then ((fm_isBetter u x7 x6 x2 x3 x4).bind fun v10 => if v10 = 0 then (fm_agreeing_6 u n x1 x2 x3 x4 x5 x6 (x7 + (1 : Int32))) else fm_agreeing_6 u n x1 x2 x3 x4 x5 x7 (x7 + (1 : Int32))) else (fm_isBetter u x7 x6 x2 (-1 : Int32) x4).bind fun v11 => if v11 = 0 then (fm_agreeing_6 u n x1 x2 x3 x4 x5 x6 (x7 + (1 : Int32))) else fm_agreeing_6 u n x1 x2 x3 x4 x5 x7 (x7 + (1 : Int32))) else if (1 : Int32) = 0 then (fm_agreeing_6 u n x1 x2 x3 x4 x5 x6 (x7 + (1 : Int32))) else if ¬ x1 = (2 : Int32) then ((fm_isBetter u x7 x6 x2 x3 x4).bind fun v12 => if v12 = 0 then (fm_agreeing_6 u n x1 x2 x3 x4 x5 x6 (x7 + (1 : Int32))) else fm_agreeing_6 u n x1 x2 x3 x4 x5 x7 (x7 + (1 : Int32))) else (fm_isBetter u x7 x6 x2 (-1 : Int32) x4).bind fun v13 => if v13 = 0 then (fm_agreeing_6 u n x1 x2 x3 x4 x5 x6 (x7 + (1 : Int32))) else fm_agreeing_6 u n x1 x2 x3 x4 x5 x7 (x7 + (1 : Int32))) := rfl
def fm_reason (u : g_S) (p1 : Int32) (p2 : Int32) (p3 : Int32) (p4 : Int32) (p5 : Int32) (p6 : Int32) : Option (Int32 × g_S) := gl (g_sI u 3 (1 : Int32)) fun u1 => (fm_again u1 p1 p2 p6).bind fun v2 => if v2 < 0 then (gl (g_sI u1 3 (2 : Int32)) fun u3 => (fm_onStretch u3 p2 p3 p5).bind fun v4 => if v4 < 0 then (gl (g_sI u3 3 (3 : Int32)) fun u5 => (fm_agreeing u5 (1 : Int32) p2 p3 p4 p6).bind fun v6 => if v6 < 0 then (gl (g_sI u5 3 (4 : Int32)) fun u7 => (fm_agreeing u7 (2 : Int32) p2 p3 p4 p6).bind fun v8 => if v8 < 0 then (gl (g_sI u7 3 (0 : Int32)) fun u9 => some (v8, u9)) else gl (g_sI u7 3 (4 : Int32)) fun u10 => some (v8, u10)) else some (v6, u5)) else some (v4, u3)) else some (v2, u1)
def fm_isRange (u : g_S) (p1 : Int32) (p2 : Int32) (p3 : Int32) : Option (Int32) := (fm_in p1 (0 : Int32) (999 : Int32)).bind fun v1 => if v1 = 0 then (some (0 : Int32)) else (fm_in p2 (-1 : Int32) (99999999 : Int32)).bind fun v2 => if v2 = 0 then (some (0 : Int32)) else if ¬ (u.1 1) = 0 then (ck ((u.1 1) - (1 : Int32)) 120 <| if p3 < (u.2 11 ((u.1 1) - (1 : Int32)).toNatClampNeg) then (some (0 : Int32)) else some (1 : Int32)) else if p3 < (0 : Int32) then (some (0 : Int32)) else some (1 : Int32)
def fm_isKnown (p0 : Int32) (p1 : Int32) : Option (Int32) := (fm_isKind p0).bind fun v1 => if v1 = 0 then (some (0 : Int32)) else (fm_in p1 (-1 : Int32) (7 : Int32)).bind fun v2 => if v2 = 0 then (some (0 : Int32)) else some (1 : Int32)
def fm_newEvent (u : g_S)  : Option (Int32 × g_S) := ck (u.1 2) 60 <| gl (g_sA u 16 (u.1 2) (0 : Int32)) fun u1 => ck (u1.1 2) 60 <| gl (g_sA u1 17 (u1.1 2) (-1 : Int32)) fun u2 => gl (g_sI u2 2 ((u2.1 2) + (1 : Int32))) fun u3 => some (((u3.1 2) - (1 : Int32)), u3)
def fm_call_199 (u : g_S) (x8 : Int32) (y1 : Int32) (y2 : Int32) : Option (Int32 × g_S) := ck y1 120 <| gl (g_sA u 12 y1 y2) fun u15 => gl (g_sI u15 1 ((u15.1 1) + (1 : Int32))) fun u16 => some (x8, u16)
def fm_call_90 (u : g_S) (x1 : Int32) (x2 : Int32) (x3 : Int32) (x4 : Int32) (x6 : Int32) (x7 : Int32) (y1 : Int32) (y2 : Int32) (y3 : Int32) : Option (Int32 × g_S) := (fm_throwing u y1 y2 y3).bind fun v5 => if v5.1 = 0 then (gl (v5.2.1 1) fun w6 => ck w6 120 <| gl (g_sA v5.2 7 w6 x1) fun u7 => ck w6 120 <| gl (g_sA u7 8 w6 x2) fun u8 => ck w6 120 <| gl (g_sA u8 9 w6 x3) fun u9 => ck w6 120 <| gl (g_sA u9 10 w6 x4) fun u10 => ck w6 120 <| gl (g_sA u10 11 w6 x6) fun u11 => ck w6 120 <| gl (g_sA u11 14 w6 (0 : Int32)) fun u12 => ck w6 120 <| gl (g_sA u12 13 w6 x7) fun u13 => ck w6 120 <| gl (g_sA u13 15 w6 (u13.1 3)) fun u14 => if 0 ≤ x7 then (ck x7 120 <| fm_call_199 u14 w6 w6 (u14.2 12 x7.toNatClampNeg)) else (fm_newEvent u14 ).bind fun v17 => fm_call_199 v17.2 w6 w6 v17.1) else some ((0 : Int32), v5.2)
def fm_call_45 (u : g_S) (x1 : Int32) (x2 : Int32) (x3 : Int32) (x4 : Int32) (x5 : Int32) (x6 : Int32) (y1 : Int32) (y2 : Int32) (y3 : Int32) : Option (Int32 × g_S) := (fm_throwing u y1 y2 y3).bind fun v3 => if v3.1 = 0 then ((fm_reason v3.2 x1 x2 x3 x4 x5 x6).bind fun v4 => if 0 ≤ v4.1 then (fm_call_90 v4.2 x1 x2 x3 x4 x6 v4.1 (0 : Int32) (0 : Int32) (0 : Int32)) else if ¬ (v4.2.1 2) = (60 : Int32) then (fm_call_90 v4.2 x1 x2 x3 x4 x6 v4.1 (0 : Int32) (0 : Int32) (0 : Int32)) else fm_call_90 v4.2 x1 x2 x3 x4 x6 v4.1 (0 : Int32) (0 : Int32) (1 : Int32)) else some ((0 : Int32), v3.2)
def fm_call_31 (u : g_S) (x1 : Int32) (x2 : Int32) (x3 : Int32) (x4 : Int32) (x5 : Int32) (x6 : Int32) (y1 : Int32) (y2 : Int32) : Option (Int32 × g_S) := if ¬ (u.1 1) = (120 : Int32) then (fm_call_45 u x1 x2 x3 x4 x5 x6 y1 y2 (0 : Int32)) else fm_call_45 u x1 x2 x3 x4 x5 x6 y1 y2 (1 : Int32)
def fm_call_15 (u : g_S) (x1 : Int32) (x2 : Int32) (x3 : Int32) (x4 : Int32) (x5 : Int32) (x6 : Int32) (y1 : Int32) : Option (Int32 × g_S) := (fm_isRange u x1 x3 x6).bind fun v2 => if ¬ v2 = 0 then (fm_call_31 u x1 x2 x3 x4 x5 x6 y1 (0 : Int32)) else fm_call_31 u x1 x2 x3 x4 x5 x6 y1 (1 : Int32)
def fm_call (u : g_S) (p1 : Int32) (p2 : Int32) (p3 : Int32) (p4 : Int32) (p5 : Int32) (p6 : Int32) : Option (Int32 × g_S) := (fm_isKnown p2 p5).bind fun v1 => if ¬ v1 = 0 then (fm_call_15 u p1 p2 p3 p4 p5 p6 (0 : Int32)) else fm_call_15 u p1 p2 p3 p4 p5 p6 (1 : Int32)
def fm_reasonFor_31 (u : g_S) (x1 : Int32) (x2 : Int32) (x3 : Int32) (x4 : Int32) (x5 : Int32) (x6 : Int32) (y1 : Int32) (y2 : Int32) : Option (Int32 × g_S) := (fm_throwing u y1 y2 (0 : Int32)).bind fun v3 => if v3.1 = 0 then ((fm_reason v3.2 x1 x2 x3 x4 x5 x6).bind fun v4 => some (v4.1, v4.2)) else some ((0 : Int32), v3.2)
def fm_reasonFor_15 (u : g_S) (x1 : Int32) (x2 : Int32) (x3 : Int32) (x4 : Int32) (x5 : Int32) (x6 : Int32) (y1 : Int32) : Option (Int32 × g_S) := (fm_isRange u x1 x3 x6).bind fun v2 => if ¬ v2 = 0 then (fm_reasonFor_31 u x1 x2 x3 x4 x5 x6 y1 (0 : Int32)) else fm_reasonFor_31 u x1 x2 x3 x4 x5 x6 y1 (1 : Int32)
def fm_reasonFor (u : g_S) (p1 : Int32) (p2 : Int32) (p3 : Int32) (p4 : Int32) (p5 : Int32) (p6 : Int32) : Option (Int32 × g_S) := (fm_isKnown p2 p5).bind fun v1 => if ¬ v1 = 0 then (fm_reasonFor_15 u p1 p2 p3 p4 p5 p6 (0 : Int32)) else fm_reasonFor_15 u p1 p2 p3 p4 p5 p6 (1 : Int32)
def fm_mark_29 (u : g_S) (x1 : Int32) (x2 : Int32) (y1 : Int32) (y2 : Int32) : Option (g_S) := (fm_throwing u y1 y2 (0 : Int32)).bind fun v3 => if v3.1 = 0 then (ck x1 120 <| gl (g_sA v3.2 14 x1 x2) fun u4 => some u4) else some v3.2
def fm_mark_14 (u : g_S) (x1 : Int32) (x2 : Int32) (y1 : Int32) : Option (g_S) := (fm_in x2 (0 : Int32) (7 : Int32)).bind fun v2 => if ¬ v2 = 0 then (fm_mark_29 u x1 x2 y1 (0 : Int32)) else fm_mark_29 u x1 x2 y1 (1 : Int32)
def fm_mark (u : g_S) (p1 : Int32) (p2 : Int32) : Option (g_S) := (fm_isCall u p1).bind fun v1 => if ¬ v1 = 0 then (fm_mark_14 u p1 p2 (0 : Int32)) else fm_mark_14 u p1 p2 (1 : Int32)
def fm_split_124 (k113 : g_S → Int32 → Int32 → Int32 → Option (Int32 × g_S)) : Nat → g_S → Int32 → Int32 → Int32 → Int32 → Option (Int32 × g_S)
  | 0, _, _, _, _, _ => none
  | n + 1, u, x4, x5, x6, x7 => if (u.1 1) ≤ x7 then (k113 u x4 x5 x6) else ck x7 120 <| if ¬ (u.2 12 x7.toNatClampNeg) = x5 then (fm_split_124 k113 n u x4 x5 x6 (x7 + (1 : Int32))) else ck x7 120 <| if (u.2 13 x7.toNatClampNeg) < 0 then (fm_split_124 k113 n u x4 x5 x6 (x7 + (1 : Int32))) else ck x7 120 <| ck (u.2 13 x7.toNatClampNeg) 120 <| if ¬ (u.2 12 (u.2 13 x7.toNatClampNeg).toNatClampNeg) = x4 then (fm_split_124 k113 n u x4 x5 x6 (x7 + (1 : Int32))) else ck x7 120 <| gl (g_sA u 12 x7 x4) fun u8 => fm_split_124 k113 n u8 x4 x5 (1 : Int32) (x7 + (1 : Int32))
def fm_split_113 : Nat → g_S → Int32 → Int32 → Int32 → Option (Int32 × g_S)
  | 0, _, _, _, _ => none
  | n + 1, u, x4, x5, x6 => if x6 = 0 then (some (x4, u)) else fm_split_124 (fm_split_113 n) 200 u x4 x5 (0 : Int32) (0 : Int32)
def fm_split_66 (u : g_S) (x1 : Int32) (y1 : Int32) (y2 : Int32) (y3 : Int32) : Option (Int32 × g_S) := (fm_throwing u y1 y2 y3).bind fun v2 => if v2.1 = 0 then ((fm_newEvent v2.2 ).bind fun v3 => ck x1 120 <| gl (g_sA v3.2 13 x1 (-1 : Int32)) fun u4 => ck x1 120 <| gl (g_sA u4 15 x1 (0 : Int32)) fun u5 => ck x1 120 <| gl (u5.2 12 x1.toNatClampNeg) fun w6 => ck x1 120 <| gl (g_sA u5 12 x1 v3.1) fun u7 => fm_split_113 200 u7 v3.1 w6 (1 : Int32)) else some ((0 : Int32), v2.2)
def fm_split_52 (u : g_S) (x1 : Int32) (y1 : Int32) (y2 : Int32) : Option (Int32 × g_S) := if ¬ (u.1 2) = (60 : Int32) then (fm_split_66 u x1 y1 y2 (0 : Int32)) else fm_split_66 u x1 y1 y2 (1 : Int32)
def fm_split_32 (u : g_S) (x1 : Int32) (x2 : Int32) (y0 : Int32) : Option (Int32 × g_S) := if ¬ x2 = 0 then (if ¬ y0 = 0 then (fm_split_52 u x1 (0 : Int32) (0 : Int32)) else fm_split_52 u x1 (0 : Int32) (1 : Int32)) else if ¬ y0 = 0 then (fm_split_52 u x1 (1 : Int32) (0 : Int32)) else fm_split_52 u x1 (1 : Int32) (1 : Int32)
def fm_split (u : g_S) (p1 : Int32) : Option (Int32 × g_S) := (fm_isCall u p1).bind fun v1 => if v1 = 0 then (fm_split_32 u p1 v1 (0 : Int32)) else ck p1 120 <| if (u.2 13 p1.toNatClampNeg) < 0 then (fm_split_32 u p1 v1 (0 : Int32)) else (fm_isOpen u p1).bind fun v9 => if v9 = 0 then (fm_split_32 u p1 v1 (0 : Int32)) else fm_split_32 u p1 v1 (1 : Int32)
theorem fm_split_113_s (u : g_S) (n : Nat) (x4 : Int32) (x5 : Int32) (x6 : Int32) : fm_split_113 (n + 1) u x4 x5 x6 = (if x6 = 0 then (some (x4, u)) else fm_split_124 (fm_split_113 n) 200 u x4 x5 (0 : Int32) (0 : Int32)) := rfl
theorem fm_split_124_s (k113 : g_S → Int32 → Int32 → Int32 → Option (Int32 × g_S)) (u : g_S) (n : Nat) (x4 : Int32) (x5 : Int32) (x6 : Int32) (x7 : Int32) : fm_split_124 k113 (n + 1) u x4 x5 x6 x7 = (if (u.1 1) ≤ x7 then (k113 u x4 x5 x6) else ck x7 120 <| if ¬ (u.2 12 x7.toNatClampNeg) = x5 then (fm_split_124 k113 n u x4 x5 x6 (x7 + (1 : Int32))) else ck x7 120 <| if (u.2 13 x7.toNatClampNeg) < 0 then (fm_split_124 k113 n u x4 x5 x6 (x7 + (1 : Int32))) else ck x7 120 <| ck (u.2 13 x7.toNatClampNeg) 120 <| if ¬ (u.2 12 (u.2 13 x7.toNatClampNeg).toNatClampNeg) = x4 then (fm_split_124 k113 n u x4 x5 x6 (x7 + (1 : Int32))) else ck x7 120 <| gl (g_sA u 12 x7 x4) fun u8 => fm_split_124 k113 n u8 x4 x5 (1 : Int32) (x7 + (1 : Int32))) := rfl
def fm_size_4 (u : g_S) : Nat → Int32 → Int32 → Int32 → Option (Int32)
  | 0, _, _, _ => none
  | n + 1, x1, x2, x3 => if (u.1 1) ≤ x3 then (some x2) else ck x3 120 <| if ¬ (u.2 12 x3.toNatClampNeg) = x1 then (gl (x2 + (0 : Int32)) fun w1 => fm_size_4 u n x1 w1 (x3 + (1 : Int32))) else gl (x2 + (1 : Int32)) fun w2 => fm_size_4 u n x1 w2 (x3 + (1 : Int32))
def fm_size (u : g_S) (p1 : Int32) : Option (Int32) := fm_size_4 u 200 p1 (0 : Int32) (0 : Int32)
theorem fm_size_4_s (u : g_S) (n : Nat) (x1 : Int32) (x2 : Int32) (x3 : Int32) : fm_size_4 u (n + 1) x1 x2 x3 = (if (u.1 1) ≤ x3 then (some x2) else ck x3 120 <| if ¬ (u.2 12 x3.toNatClampNeg) = x1 then (gl (x2 + (0 : Int32)) fun w1 => fm_size_4 u n x1 w1 (x3 + (1 : Int32))) else gl (x2 + (1 : Int32)) fun w2 => fm_size_4 u n x1 w2 (x3 + (1 : Int32))) := rfl
def fm_merge_115 : Nat → g_S → Int32 → Int32 → Int32 → Option (Int32 × g_S)
  | 0, _, _, _, _ => none
  | n + 1, u, x1, x2, x6 => if (u.1 1) ≤ x6 then (ck x1 60 <| gl (g_sA u 16 x1 (3 : Int32)) fun u6 => ck x1 60 <| gl (g_sA u6 17 x1 (-1 : Int32)) fun u7 => ck x2 120 <| (fm_size u7 (u7.2 12 x2.toNatClampNeg)).bind fun v8 => some (v8, u7)) else ck x6 120 <| if ¬ (u.2 12 x6.toNatClampNeg) = x1 then (fm_merge_115 n u x1 x2 (x6 + (1 : Int32))) else ck x2 120 <| ck x6 120 <| gl (g_sA u 12 x6 (u.2 12 x2.toNatClampNeg)) fun u9 => fm_merge_115 n u9 x1 x2 (x6 + (1 : Int32))
def fm_merge_80 (u : g_S) (x1 : Int32) (x2 : Int32) (y1 : Int32) (y2 : Int32) : Option (Int32 × g_S) := (fm_throwing u y1 y2 (0 : Int32)).bind fun v2 => if v2.1 = 0 then ((fm_firstOf v2.2 x1).bind fun v3 => ck v3 120 <| gl (g_sA v2.2 13 v3 x2) fun u4 => ck v3 120 <| gl (g_sA u4 15 v3 (5 : Int32)) fun u5 => fm_merge_115 200 u5 x1 x2 (0 : Int32)) else some ((0 : Int32), v2.2)
def fm_merge_58 (u : g_S) (x1 : Int32) (x2 : Int32) (x3 : Int32) (y0 : Int32) : Option (Int32 × g_S) := if ¬ x3 = 0 then (if ¬ y0 = 0 then (fm_merge_80 u x1 x2 (0 : Int32) (0 : Int32)) else fm_merge_80 u x1 x2 (0 : Int32) (1 : Int32)) else if ¬ y0 = 0 then (fm_merge_80 u x1 x2 (1 : Int32) (0 : Int32)) else fm_merge_80 u x1 x2 (1 : Int32) (1 : Int32)
def fm_merge_21 (u : g_S) (x1 : Int32) (x2 : Int32) (y0 : Int32) : Option (Int32 × g_S) := if y0 = 0 then (fm_merge_58 u x1 x2 y0 (0 : Int32)) else ck x1 60 <| if ¬ (u.2 16 x1.toNatClampNeg) = 0 then (fm_merge_58 u x1 x2 y0 (0 : Int32)) else (fm_isOpen u x2).bind fun v10 => if v10 = 0 then (fm_merge_58 u x1 x2 y0 (0 : Int32)) else ck x2 120 <| if (u.2 12 x2.toNatClampNeg) = x1 then (fm_merge_58 u x1 x2 y0 (0 : Int32)) else fm_merge_58 u x1 x2 y0 (1 : Int32)
def fm_merge (u : g_S) (p1 : Int32) (p2 : Int32) : Option (Int32 × g_S) := (fm_isEvent u p1).bind fun v1 => if v1 = 0 then (fm_merge_21 u p1 p2 (0 : Int32)) else (fm_isCall u p2).bind fun v11 => if v11 = 0 then (fm_merge_21 u p1 p2 (0 : Int32)) else fm_merge_21 u p1 p2 (1 : Int32)
theorem fm_merge_115_s (u : g_S) (n : Nat) (x1 : Int32) (x2 : Int32) (x6 : Int32) : fm_merge_115 (n + 1) u x1 x2 x6 = (if (u.1 1) ≤ x6 then (ck x1 60 <| gl (g_sA u 16 x1 (3 : Int32)) fun u6 => ck x1 60 <| gl (g_sA u6 17 x1 (-1 : Int32)) fun u7 => ck x2 120 <| (fm_size u7 (u7.2 12 x2.toNatClampNeg)).bind fun v8 => some (v8, u7)) else ck x6 120 <| if ¬ (u.2 12 x6.toNatClampNeg) = x1 then (fm_merge_115 n u x1 x2 (x6 + (1 : Int32))) else ck x2 120 <| ck x6 120 <| gl (g_sA u 12 x6 (u.2 12 x2.toNatClampNeg)) fun u9 => fm_merge_115 n u9 x1 x2 (x6 + (1 : Int32))) := rfl
def fm_watch_113 (u : g_S) (x1 : Int32) (x2 : Int32) (x3 : Int32) (x4 : Int32) (y1 : Int32) (y2 : Int32) (y3 : Int32) : Option (g_S) := (fm_throwing u y1 y2 y3).bind fun v2 => if v2.1 = 0 then (ck x1 60 <| gl (g_sA v2.2 17 x1 x2) fun u3 => ck x1 60 <| gl (g_sA u3 18 x1 x3) fun u4 => ck x1 60 <| gl (g_sA u4 19 x1 x4) fun u5 => some u5) else some v2.2
def fm_watch_94 (u : g_S) (x1 : Int32) (x2 : Int32) (x3 : Int32) (x4 : Int32) (x5 : Int32) (y1 : Int32) (y2 : Int32) : Option (g_S) := if x5 = 0 then (fm_watch_113 u x1 x2 x3 x4 y1 y2 (0 : Int32)) else ck x1 60 <| if (u.2 16 x1.toNatClampNeg) = 0 then (fm_watch_113 u x1 x2 x3 x4 y1 y2 (0 : Int32)) else fm_watch_113 u x1 x2 x3 x4 y1 y2 (1 : Int32)
def fm_watch_71 (u : g_S) (x1 : Int32) (x2 : Int32) (x3 : Int32) (x4 : Int32) (x5 : Int32) (y0 : Int32) : Option (g_S) := if ¬ x5 = 0 then (if ¬ y0 = 0 then (fm_watch_94 u x1 x2 x3 x4 x5 (0 : Int32) (0 : Int32)) else fm_watch_94 u x1 x2 x3 x4 x5 (0 : Int32) (1 : Int32)) else if ¬ y0 = 0 then (fm_watch_94 u x1 x2 x3 x4 x5 (1 : Int32) (0 : Int32)) else fm_watch_94 u x1 x2 x3 x4 x5 (1 : Int32) (1 : Int32)
def fm_watch_20 (u : g_S) (x1 : Int32) (x2 : Int32) (x3 : Int32) (x4 : Int32) (y0 : Int32) : Option (g_S) := if y0 = 0 then (fm_watch_71 u x1 x2 x3 x4 y0 (0 : Int32)) else ck x2 8 <| (fm_in x3 (0 : Int32) ((u.2 5 x2.toNatClampNeg) - (1 : Int32))).bind fun v6 => if v6 = 0 then (fm_watch_71 u x1 x2 x3 x4 y0 (0 : Int32)) else ck x2 8 <| (fm_in x4 (0 : Int32) ((u.2 5 x2.toNatClampNeg) - (1 : Int32))).bind fun v7 => if v7 = 0 then (fm_watch_71 u x1 x2 x3 x4 y0 (0 : Int32)) else if x3 = x4 then (fm_watch_71 u x1 x2 x3 x4 y0 (0 : Int32)) else fm_watch_71 u x1 x2 x3 x4 y0 (1 : Int32)
def fm_watch (u : g_S) (p1 : Int32) (p2 : Int32) (p3 : Int32) (p4 : Int32) : Option (g_S) := (fm_isEvent u p1).bind fun v1 => if v1 = 0 then (fm_watch_20 u p1 p2 p3 p4 (0 : Int32)) else (fm_isRoad p2).bind fun v8 => if v8 = 0 then (fm_watch_20 u p1 p2 p3 p4 (0 : Int32)) else fm_watch_20 u p1 p2 p3 p4 (1 : Int32)
def fm_state_59 (u : g_S) (x1 : Int32) (x2 : Int32) (y1 : Int32) (y2 : Int32) (y3 : Int32) : Option (g_S) := (fm_throwing u y1 y2 y3).bind fun v3 => if v3.1 = 0 then (ck x1 60 <| gl (g_sA v3.2 16 x1 x2) fun u4 => some u4) else some v3.2
def fm_state_30 (u : g_S) (x1 : Int32) (x2 : Int32) (x3 : Int32) (y1 : Int32) (y2 : Int32) : Option (g_S) := if x3 = 0 then (fm_state_59 u x1 x2 y1 y2 (0 : Int32)) else ck x1 60 <| if (u.2 16 x1.toNatClampNeg) = x2 then (fm_state_59 u x1 x2 y1 y2 (1 : Int32)) else ck x1 60 <| if ¬ (u.2 16 x1.toNatClampNeg) = (3 : Int32) then (fm_state_59 u x1 x2 y1 y2 (0 : Int32)) else fm_state_59 u x1 x2 y1 y2 (1 : Int32)
def fm_state_16 (u : g_S) (x1 : Int32) (x2 : Int32) (x3 : Int32) (y1 : Int32) : Option (g_S) := (fm_in x2 (0 : Int32) (2 : Int32)).bind fun v2 => if ¬ v2 = 0 then (fm_state_30 u x1 x2 x3 y1 (0 : Int32)) else fm_state_30 u x1 x2 x3 y1 (1 : Int32)
def fm_state (u : g_S) (p1 : Int32) (p2 : Int32) : Option (g_S) := (fm_isEvent u p1).bind fun v1 => if ¬ v1 = 0 then (fm_state_16 u p1 p2 v1 (0 : Int32)) else fm_state_16 u p1 p2 v1 (1 : Int32)
def fm_share_101 (u : g_S) (x1 : Int32) (x2 : Int32) (x4 : Int32) (x5 : Int32) (y1 : Int32) (y2 : Int32) : Option (Int32 × g_S) := (fm_throwing u y1 y2 (0 : Int32)).bind fun v2 => if v2.1 = 0 then (ck x1 120 <| ck x2 120 <| (fm_sum v2.2 ((v2.2.2 10 x1.toNatClampNeg) &&& (v2.2.2 10 x2.toNatClampNeg)) x4).bind fun v3 => if x5 = 0 then none else some ((((1000 : Int32) * v3) / x5), v2.2)) else some ((0 : Int32), v2.2)
def fm_share_79 (u : g_S) (x1 : Int32) (x2 : Int32) (x3 : Int32) (x4 : Int32) (y0 : Int32) : Option (Int32 × g_S) := if ¬ x3 = 0 then (if ¬ y0 = 0 then (fm_share_101 u x1 x2 x4 y0 (0 : Int32) (0 : Int32)) else fm_share_101 u x1 x2 x4 y0 (0 : Int32) (1 : Int32)) else if ¬ y0 = 0 then (fm_share_101 u x1 x2 x4 y0 (1 : Int32) (0 : Int32)) else fm_share_101 u x1 x2 x4 y0 (1 : Int32) (1 : Int32)
def fm_share_50 (u : g_S) (x1 : Int32) (x2 : Int32) (x3 : Int32) (y0 : Int32) : Option (Int32 × g_S) := if x3 = 0 then (fm_share_79 u x1 x2 x3 y0 (0 : Int32)) else ck x1 120 <| ck x2 120 <| (fm_sum u ((u.2 10 x1.toNatClampNeg) ||| (u.2 10 x2.toNatClampNeg)) y0).bind fun v4 => fm_share_79 u x1 x2 x3 y0 v4
def fm_share_26 (u : g_S) (x1 : Int32) (x2 : Int32) (y0 : Int32) : Option (Int32 × g_S) := if y0 = 0 then (fm_share_50 u x1 x2 y0 (0 : Int32)) else if x1 ≤ x2 then (ck x2 120 <| fm_share_50 u x1 x2 y0 (u.2 8 x2.toNatClampNeg)) else ck x1 120 <| fm_share_50 u x1 x2 y0 (u.2 8 x1.toNatClampNeg)
def fm_share (u : g_S) (p1 : Int32) (p2 : Int32) : Option (Int32 × g_S) := (fm_isCall u p1).bind fun v1 => if v1 = 0 then (fm_share_26 u p1 p2 (0 : Int32)) else (fm_isCall u p2).bind fun v5 => if v5 = 0 then (fm_share_26 u p1 p2 (0 : Int32)) else if p1 = p2 then (fm_share_26 u p1 p2 (0 : Int32)) else fm_share_26 u p1 p2 (1 : Int32)
def fm_agree_57 (u : g_S) (x1 : Int32) (x2 : Int32) (y0 : Int32) : Option (Int32 × g_S) := gl ((x1 + x2) - y0) fun w3 => ck w3 120 <| ck w3 120 <| ck w3 120 <| ck w3 120 <| (fm_meets u y0 (u.2 8 w3.toNatClampNeg) (u.2 9 w3.toNatClampNeg) (u.2 10 w3.toNatClampNeg) (u.2 11 w3.toNatClampNeg)).bind fun v4 => some (v4, u)
def fm_agree_37 (u : g_S) (x1 : Int32) (x2 : Int32) (y1 : Int32) : Option (Int32 × g_S) := (fm_throwing u y1 (0 : Int32) (0 : Int32)).bind fun v2 => if v2.1 = 0 then (if x2 ≤ x1 then (fm_agree_57 v2.2 x1 x2 x2) else fm_agree_57 v2.2 x1 x2 x1) else some ((0 : Int32), v2.2)
def fm_agree_26 (u : g_S) (x1 : Int32) (x2 : Int32) (y0 : Int32) : Option (Int32 × g_S) := if ¬ y0 = 0 then (fm_agree_37 u x1 x2 (0 : Int32)) else fm_agree_37 u x1 x2 (1 : Int32)
def fm_agree (u : g_S) (p1 : Int32) (p2 : Int32) : Option (Int32 × g_S) := (fm_isCall u p1).bind fun v1 => if v1 = 0 then (fm_agree_26 u p1 p2 (0 : Int32)) else (fm_isCall u p2).bind fun v5 => if v5 = 0 then (fm_agree_26 u p1 p2 (0 : Int32)) else if p1 = p2 then (fm_agree_26 u p1 p2 (0 : Int32)) else fm_agree_26 u p1 p2 (1 : Int32)
def fm_callAt_23 (u : g_S) (x1 : Int32) (x2 : Int32) (y1 : Int32) : Option (Int32 × g_S) := (fm_throwing u y1 (0 : Int32) (0 : Int32)).bind fun v2 => if v2.1 = 0 then (if ¬ x2 = 0 then (if ¬ x2 = (1 : Int32) then (if ¬ x2 = (2 : Int32) then (if ¬ x2 = (3 : Int32) then (ck x1 120 <| some ((v2.2.2 15 x1.toNatClampNeg), v2.2)) else ck x1 120 <| some ((v2.2.2 8 x1.toNatClampNeg), v2.2)) else ck x1 120 <| some ((v2.2.2 14 x1.toNatClampNeg), v2.2)) else ck x1 120 <| some ((v2.2.2 13 x1.toNatClampNeg), v2.2)) else ck x1 120 <| some ((v2.2.2 12 x1.toNatClampNeg), v2.2)) else some ((0 : Int32), v2.2)
def fm_callAt (u : g_S) (p1 : Int32) (p2 : Int32) : Option (Int32 × g_S) := (fm_isCall u p1).bind fun v1 => if v1 = 0 then (fm_callAt_23 u p1 p2 (1 : Int32)) else (fm_in p2 (0 : Int32) (4 : Int32)).bind fun v3 => if ¬ v3 = 0 then (fm_callAt_23 u p1 p2 (0 : Int32)) else fm_callAt_23 u p1 p2 (1 : Int32)
def fm_weightOf_4 (u : g_S) : Nat → Int32 → Int32 → Int32 → Option (Int32)
  | 0, _, _, _ => none
  | n + 1, x1, x2, x3 => if (u.1 1) ≤ x3 then (some x2) else ck x3 120 <| if ¬ (u.2 12 x3.toNatClampNeg) = x1 then (fm_weightOf_4 u n x1 x2 (x3 + (1 : Int32))) else (fm_isHoax u x3).bind fun v1 => if ¬ v1 = 0 then (fm_weightOf_4 u n x1 x2 (x3 + (1 : Int32))) else ck x3 120 <| if ((u.2 14 x3.toNatClampNeg) &&& (1 : Int32)) = 0 then (ck x3 120 <| if (u.2 9 x3.toNatClampNeg) < 0 then (gl (x2 + (((4 : Int32) - (0 : Int32)) + (0 : Int32))) fun w2 => fm_weightOf_4 u n x1 w2 (x3 + (1 : Int32))) else gl (x2 + (((4 : Int32) - (0 : Int32)) + (1 : Int32))) fun w3 => fm_weightOf_4 u n x1 w3 (x3 + (1 : Int32))) else ck x3 120 <| if (u.2 9 x3.toNatClampNeg) < 0 then (gl (x2 + (((4 : Int32) - (2 : Int32)) + (0 : Int32))) fun w4 => fm_weightOf_4 u n x1 w4 (x3 + (1 : Int32))) else gl (x2 + (((4 : Int32) - (2 : Int32)) + (1 : Int32))) fun w5 => fm_weightOf_4 u n x1 w5 (x3 + (1 : Int32))
def fm_weightOf (u : g_S) (p1 : Int32) : Option (Int32) := fm_weightOf_4 u 200 p1 (0 : Int32) (0 : Int32)
theorem fm_weightOf_4_s (u : g_S) (n : Nat) (x1 : Int32) (x2 : Int32) (x3 : Int32) : fm_weightOf_4 u (n + 1) x1 x2 x3 = (if (u.1 1) ≤ x3 then (some x2) else ck x3 120 <| if ¬ (u.2 12 x3.toNatClampNeg) = x1 then (fm_weightOf_4 u n x1 x2 (x3 + (1 : Int32))) else (fm_isHoax u x3).bind fun v1 => if ¬ v1 = 0 then (fm_weightOf_4 u n x1 x2 (x3 + (1 : Int32))) else ck x3 120 <| if ((u.2 14 x3.toNatClampNeg) &&& (1 : Int32)) = 0 then (ck x3 120 <| if (u.2 9 x3.toNatClampNeg) < 0 then (gl (x2 + (((4 : Int32) - (0 : Int32)) + (0 : Int32))) fun w2 => fm_weightOf_4 u n x1 w2 (x3 + (1 : Int32))) else gl (x2 + (((4 : Int32) - (0 : Int32)) + (1 : Int32))) fun w3 => fm_weightOf_4 u n x1 w3 (x3 + (1 : Int32))) else ck x3 120 <| if (u.2 9 x3.toNatClampNeg) < 0 then (gl (x2 + (((4 : Int32) - (2 : Int32)) + (0 : Int32))) fun w4 => fm_weightOf_4 u n x1 w4 (x3 + (1 : Int32))) else gl (x2 + (((4 : Int32) - (2 : Int32)) + (1 : Int32))) fun w5 => fm_weightOf_4 u n x1 w5 (x3 + (1 : Int32))) := rfl
def fm_placeOf_2 (u : g_S) : Nat → Int32 → Int32 → Option (Int32)
  | 0, _, _ => none
  | n + 1, x1, x2 => if (u.1 1) ≤ x2 then (some (-1 : Int32)) else ck x2 120 <| if ¬ (u.2 12 x2.toNatClampNeg) = x1 then (fm_placeOf_2 u n x1 (x2 + (1 : Int32))) else (fm_isHoax u x2).bind fun v1 => if ¬ v1 = 0 then (fm_placeOf_2 u n x1 (x2 + (1 : Int32))) else ck x2 120 <| if (u.2 9 x2.toNatClampNeg) < 0 then (fm_placeOf_2 u n x1 (x2 + (1 : Int32))) else ck x2 120 <| some (u.2 9 x2.toNatClampNeg)
def fm_placeOf (u : g_S) (p1 : Int32) : Option (Int32) := fm_placeOf_2 u 200 p1 (0 : Int32)
theorem fm_placeOf_2_s (u : g_S) (n : Nat) (x1 : Int32) (x2 : Int32) : fm_placeOf_2 u (n + 1) x1 x2 = (if (u.1 1) ≤ x2 then (some (-1 : Int32)) else ck x2 120 <| if ¬ (u.2 12 x2.toNatClampNeg) = x1 then (fm_placeOf_2 u n x1 (x2 + (1 : Int32))) else (fm_isHoax u x2).bind fun v1 => if ¬ v1 = 0 then (fm_placeOf_2 u n x1 (x2 + (1 : Int32))) else ck x2 120 <| if (u.2 9 x2.toNatClampNeg) < 0 then (fm_placeOf_2 u n x1 (x2 + (1 : Int32))) else ck x2 120 <| some (u.2 9 x2.toNatClampNeg)) := rfl
def fm_latestOf_4 (u : g_S) : Nat → Int32 → Int32 → Int32 → Option (Int32)
  | 0, _, _, _ => none
  | n + 1, x1, x2, x3 => if (u.1 1) ≤ x3 then (some x2) else ck x3 120 <| if ¬ (u.2 12 x3.toNatClampNeg) = x1 then (fm_latestOf_4 u n x1 x2 (x3 + (1 : Int32))) else ck x3 120 <| gl (u.2 11 x3.toNatClampNeg) fun w1 => fm_latestOf_4 u n x1 w1 (x3 + (1 : Int32))
def fm_latestOf (u : g_S) (p1 : Int32) : Option (Int32) := fm_latestOf_4 u 200 p1 (-1 : Int32) (0 : Int32)
theorem fm_latestOf_4_s (u : g_S) (n : Nat) (x1 : Int32) (x2 : Int32) (x3 : Int32) : fm_latestOf_4 u (n + 1) x1 x2 x3 = (if (u.1 1) ≤ x3 then (some x2) else ck x3 120 <| if ¬ (u.2 12 x3.toNatClampNeg) = x1 then (fm_latestOf_4 u n x1 x2 (x3 + (1 : Int32))) else ck x3 120 <| gl (u.2 11 x3.toNatClampNeg) fun w1 => fm_latestOf_4 u n x1 w1 (x3 + (1 : Int32))) := rfl
def fm_eventAt_24 (u : g_S) (x1 : Int32) (x2 : Int32) (y1 : Int32) : Option (Int32 × g_S) := (fm_throwing u y1 (0 : Int32) (0 : Int32)).bind fun v2 => if v2.1 = 0 then ((fm_firstOf v2.2 x1).bind fun v3 => if x2 = (0 : Int32) then (ck x1 60 <| some ((v2.2.2 16 x1.toNatClampNeg), v2.2)) else if x2 = (1 : Int32) then ((fm_size v2.2 x1).bind fun v4 => some (v4, v2.2)) else if x2 = (2 : Int32) then (if 0 ≤ v3 then (ck v3 120 <| some ((v2.2.2 8 v3.toNatClampNeg), v2.2)) else some ((-1 : Int32), v2.2)) else if x2 = (3 : Int32) then ((fm_weightOf v2.2 x1).bind fun v5 => some (v5, v2.2)) else if x2 = (4 : Int32) then ((fm_placeOf v2.2 x1).bind fun v6 => some (v6, v2.2)) else if x2 = (5 : Int32) then (some (v3, v2.2)) else (fm_latestOf v2.2 x1).bind fun v7 => some (v7, v2.2)) else some ((0 : Int32), v2.2)
def fm_eventAt (u : g_S) (p1 : Int32) (p2 : Int32) : Option (Int32 × g_S) := (fm_isEvent u p1).bind fun v1 => if v1 = 0 then (fm_eventAt_24 u p1 p2 (1 : Int32)) else (fm_in p2 (0 : Int32) (6 : Int32)).bind fun v8 => if ¬ v8 = 0 then (fm_eventAt_24 u p1 p2 (0 : Int32)) else fm_eventAt_24 u p1 p2 (1 : Int32)
def fm_member_55 : Nat → g_S → Int32 → Int32 → Int32 → Option (Int32 × g_S)
  | 0, _, _, _, _ => none
  | n + 1, u, x1, x4, x5 => if (u.1 1) ≤ x5 then (some ((0 : Int32), u)) else ck x5 120 <| if ¬ (u.2 12 x5.toNatClampNeg) = x1 then (ck x5 120 <| if ¬ (u.2 12 x5.toNatClampNeg) = x1 then (gl (x4 - (0 : Int32)) fun w3 => fm_member_55 n u x1 w3 (x5 + (1 : Int32))) else gl (x4 - (1 : Int32)) fun w4 => fm_member_55 n u x1 w4 (x5 + (1 : Int32))) else if ¬ x4 = 0 then (ck x5 120 <| if ¬ (u.2 12 x5.toNatClampNeg) = x1 then (gl (x4 - (0 : Int32)) fun w5 => fm_member_55 n u x1 w5 (x5 + (1 : Int32))) else gl (x4 - (1 : Int32)) fun w6 => fm_member_55 n u x1 w6 (x5 + (1 : Int32))) else some (x5, u)
def fm_member_40 (u : g_S) (x1 : Int32) (x2 : Int32) (y1 : Int32) (y2 : Int32) : Option (Int32 × g_S) := (fm_throwing u y1 y2 (0 : Int32)).bind fun v2 => if v2.1 = 0 then (fm_member_55 200 v2.2 x1 x2 (0 : Int32)) else some ((0 : Int32), v2.2)
def fm_member_16 (u : g_S) (x1 : Int32) (x2 : Int32) (x3 : Int32) (y1 : Int32) : Option (Int32 × g_S) := if x3 = 0 then (fm_member_40 u x1 x2 y1 (0 : Int32)) else (fm_size u x1).bind fun v7 => (fm_in x2 (0 : Int32) (v7 - (1 : Int32))).bind fun v8 => if ¬ v8 = 0 then (fm_member_40 u x1 x2 y1 (0 : Int32)) else fm_member_40 u x1 x2 y1 (1 : Int32)
def fm_member (u : g_S) (p1 : Int32) (p2 : Int32) : Option (Int32 × g_S) := (fm_isEvent u p1).bind fun v1 => if ¬ v1 = 0 then (fm_member_16 u p1 p2 v1 (0 : Int32)) else fm_member_16 u p1 p2 v1 (1 : Int32)
theorem fm_member_55_s (u : g_S) (n : Nat) (x1 : Int32) (x4 : Int32) (x5 : Int32) : fm_member_55 (n + 1) u x1 x4 x5 = (if (u.1 1) ≤ x5 then (some ((0 : Int32), u)) else ck x5 120 <| if ¬ (u.2 12 x5.toNatClampNeg) = x1 then (ck x5 120 <| if ¬ (u.2 12 x5.toNatClampNeg) = x1 then (gl (x4 - (0 : Int32)) fun w3 => fm_member_55 n u x1 w3 (x5 + (1 : Int32))) else gl (x4 - (1 : Int32)) fun w4 => fm_member_55 n u x1 w4 (x5 + (1 : Int32))) else if ¬ x4 = 0 then (ck x5 120 <| if ¬ (u.2 12 x5.toNatClampNeg) = x1 then (gl (x4 - (0 : Int32)) fun w5 => fm_member_55 n u x1 w5 (x5 + (1 : Int32))) else gl (x4 - (1 : Int32)) fun w6 => fm_member_55 n u x1 w6 (x5 + (1 : Int32))) else some (x5, u)) := rfl
def fm_count_88 : Nat → g_S → Int32 → Int32 → Int32 → Option (Int32 × g_S)
  | 0, _, _, _, _ => none
  | n + 1, u, x1, x2, x3 => if (u.1 1) ≤ x3 then (some (x2, u)) else if ¬ x1 = (3 : Int32) then (some (x2, u)) else (fm_isHoax u x3).bind fun v3 => if v3 = 0 then (gl (x2 + (0 : Int32)) fun w4 => fm_count_88 n u x1 w4 (x3 + (1 : Int32))) else gl (x2 + (1 : Int32)) fun w5 => fm_count_88 n u x1 w5 (x3 + (1 : Int32))
def fm_count_50 : Nat → g_S → Int32 → Int32 → Int32 → Option (Int32 × g_S)
  | 0, _, _, _, _ => none
  | n + 1, u, x1, x2, x3 => if (u.1 2) ≤ x3 then (fm_count_88 200 u x1 x2 (0 : Int32)) else if ¬ x1 = (2 : Int32) then (fm_count_88 200 u x1 x2 (0 : Int32)) else ck x3 60 <| if ¬ (u.2 16 x3.toNatClampNeg) = 0 then (gl (x2 + (0 : Int32)) fun w6 => fm_count_50 n u x1 w6 (x3 + (1 : Int32))) else gl (x2 + (1 : Int32)) fun w7 => fm_count_50 n u x1 w7 (x3 + (1 : Int32))
def fm_count_15 (u : g_S) (x1 : Int32) (y1 : Int32) : Option (Int32 × g_S) := (fm_throwing u y1 (0 : Int32) (0 : Int32)).bind fun v2 => if v2.1 = 0 then (if (2 : Int32) ≤ x1 then (fm_count_50 200 v2.2 x1 (0 : Int32) (0 : Int32)) else if ¬ x1 = 0 then (some ((v2.2.1 2), v2.2)) else some ((v2.2.1 1), v2.2)) else some ((0 : Int32), v2.2)
def fm_count (u : g_S) (p1 : Int32) : Option (Int32 × g_S) := (fm_in p1 (0 : Int32) (3 : Int32)).bind fun v1 => if ¬ v1 = 0 then (fm_count_15 u p1 (0 : Int32)) else fm_count_15 u p1 (1 : Int32)
theorem fm_count_50_s (u : g_S) (n : Nat) (x1 : Int32) (x2 : Int32) (x3 : Int32) : fm_count_50 (n + 1) u x1 x2 x3 = (if (u.1 2) ≤ x3 then (fm_count_88 200 u x1 x2 (0 : Int32)) else if ¬ x1 = (2 : Int32) then (fm_count_88 200 u x1 x2 (0 : Int32)) else ck x3 60 <| if ¬ (u.2 16 x3.toNatClampNeg) = 0 then (gl (x2 + (0 : Int32)) fun w6 => fm_count_50 n u x1 w6 (x3 + (1 : Int32))) else gl (x2 + (1 : Int32)) fun w7 => fm_count_50 n u x1 w7 (x3 + (1 : Int32))) := rfl
theorem fm_count_88_s (u : g_S) (n : Nat) (x1 : Int32) (x2 : Int32) (x3 : Int32) : fm_count_88 (n + 1) u x1 x2 x3 = (if (u.1 1) ≤ x3 then (some (x2, u)) else if ¬ x1 = (3 : Int32) then (some (x2, u)) else (fm_isHoax u x3).bind fun v3 => if v3 = 0 then (gl (x2 + (0 : Int32)) fun w4 => fm_count_88 n u x1 w4 (x3 + (1 : Int32))) else gl (x2 + (1 : Int32)) fun w5 => fm_count_88 n u x1 w5 (x3 + (1 : Int32))) := rfl
end
section
def cjA (a : Nat → Nat) : List Nat := [a 0, a 1, a 2, a 3, a 4, a 5, a 6, a 7, a 8, a 9, a 10, a 11, a 12, a 13, a 14, a 15, a 16, a 17, a 18, a 19, a 20, a 21, a 22, a 23, a 24, a 25, a 26, a 27]
def cjW (a : Nat → Nat) (cA : ClassId) (u : g_S) : va_W := [(a 0, .inr (4, [.ref (a 1), .ref (a 2), .ref (a 3), .ref (a 4)])), (a 1, .inr (3, [.ref (a 5), .ref (a 6), .ref (a 7), .ref (a 8), .ref (a 9)])), (a 2, .inr (2, [.ref (a 10), .ref (a 11)])), (a 3, .inr (0, [.int (u.1 0), .ref (a 12), .ref (a 13), .ref (a 14), .ref (a 15), .ref (a 16), .ref (a 17), .ref (a 18), .ref (a 19), .ref (a 20), .ref (a 21)])), (a 4, .inr (1, [.int (u.1 1), .ref (a 22), .ref (a 23), .ref (a 24), .ref (a 25), .ref (a 26), .ref (a 27)])), (a 5, .inl (cA, 8, .inl (u.2 0))), (a 6, .inl (cA, 8, .inl (u.2 1))), (a 7, .inl (cA, 8, .inl (u.2 2))), (a 8, .inl (cA, 8, .inl (u.2 3))), (a 9, .inl (cA, 256, .inl (u.2 4))), (a 10, .inl (cA, 8, .inl (u.2 5))), (a 11, .inl (cA, 64, .inl (u.2 6))), (a 12, .inl (cA, 121, .inl (u.2 7))), (a 13, .inl (cA, 121, .inl (u.2 8))), (a 14, .inl (cA, 121, .inl (u.2 9))), (a 15, .inl (cA, 121, .inl (u.2 10))), (a 16, .inl (cA, 121, .inl (u.2 11))), (a 17, .inl (cA, 121, .inl (u.2 12))), (a 18, .inl (cA, 121, .inl (u.2 13))), (a 19, .inl (cA, 121, .inl (u.2 14))), (a 20, .inl (cA, 121, .inl (u.2 15))), (a 21, .inl (cA, 121, .inl (u.2 16))), (a 22, .inl (cA, 60, .inl (u.2 17))), (a 23, .inl (cA, 60, .inl (u.2 18))), (a 24, .inl (cA, 60, .inl (u.2 19))), (a 25, .inl (cA, 60, .inl (u.2 20))), (a 26, .inl (cA, 60, .inl (u.2 21))), (a 27, .inl (cA, 60, .inl (u.2 22)))]
theorem cjW_as (a : Nat → Nat) (cA : ClassId) (u : g_S) : (cjW a cA u).map Prod.fst = cjA a := rfl
theorem cjS_0 (a : Nat → Nat) (cA : ClassId) (u u' : g_S) (i x : Int32) (h : u' = g_sA u 0 i x) : (cjW a cA u).set 5 (a 5, .inl (cA, 8, .inl (upd (u.2 0) i.toNatClampNeg x))) = cjW a cA u' := by subst h; rfl
theorem cjS_1 (a : Nat → Nat) (cA : ClassId) (u u' : g_S) (i x : Int32) (h : u' = g_sA u 1 i x) : (cjW a cA u).set 6 (a 6, .inl (cA, 8, .inl (upd (u.2 1) i.toNatClampNeg x))) = cjW a cA u' := by subst h; rfl
theorem cjS_2 (a : Nat → Nat) (cA : ClassId) (u u' : g_S) (i x : Int32) (h : u' = g_sA u 2 i x) : (cjW a cA u).set 7 (a 7, .inl (cA, 8, .inl (upd (u.2 2) i.toNatClampNeg x))) = cjW a cA u' := by subst h; rfl
theorem cjS_3 (a : Nat → Nat) (cA : ClassId) (u u' : g_S) (i x : Int32) (h : u' = g_sA u 3 i x) : (cjW a cA u).set 8 (a 8, .inl (cA, 8, .inl (upd (u.2 3) i.toNatClampNeg x))) = cjW a cA u' := by subst h; rfl
theorem cjS_4 (a : Nat → Nat) (cA : ClassId) (u u' : g_S) (i x : Int32) (h : u' = g_sA u 4 i x) : (cjW a cA u).set 9 (a 9, .inl (cA, 256, .inl (upd (u.2 4) i.toNatClampNeg x))) = cjW a cA u' := by subst h; rfl
theorem cjS_5 (a : Nat → Nat) (cA : ClassId) (u u' : g_S) (i x : Int32) (h : u' = g_sA u 5 i x) : (cjW a cA u).set 10 (a 10, .inl (cA, 8, .inl (upd (u.2 5) i.toNatClampNeg x))) = cjW a cA u' := by subst h; rfl
theorem cjS_6 (a : Nat → Nat) (cA : ClassId) (u u' : g_S) (i x : Int32) (h : u' = g_sA u 6 i x) : (cjW a cA u).set 11 (a 11, .inl (cA, 64, .inl (upd (u.2 6) i.toNatClampNeg x))) = cjW a cA u' := by subst h; rfl
theorem cjS_7 (a : Nat → Nat) (cA : ClassId) (u u' : g_S) (i x : Int32) (h : u' = g_sA u 7 i x) : (cjW a cA u).set 12 (a 12, .inl (cA, 121, .inl (upd (u.2 7) i.toNatClampNeg x))) = cjW a cA u' := by subst h; rfl
theorem cjS_8 (a : Nat → Nat) (cA : ClassId) (u u' : g_S) (i x : Int32) (h : u' = g_sA u 8 i x) : (cjW a cA u).set 13 (a 13, .inl (cA, 121, .inl (upd (u.2 8) i.toNatClampNeg x))) = cjW a cA u' := by subst h; rfl
theorem cjS_9 (a : Nat → Nat) (cA : ClassId) (u u' : g_S) (i x : Int32) (h : u' = g_sA u 9 i x) : (cjW a cA u).set 14 (a 14, .inl (cA, 121, .inl (upd (u.2 9) i.toNatClampNeg x))) = cjW a cA u' := by subst h; rfl
theorem cjS_10 (a : Nat → Nat) (cA : ClassId) (u u' : g_S) (i x : Int32) (h : u' = g_sA u 10 i x) : (cjW a cA u).set 15 (a 15, .inl (cA, 121, .inl (upd (u.2 10) i.toNatClampNeg x))) = cjW a cA u' := by subst h; rfl
theorem cjS_11 (a : Nat → Nat) (cA : ClassId) (u u' : g_S) (i x : Int32) (h : u' = g_sA u 11 i x) : (cjW a cA u).set 16 (a 16, .inl (cA, 121, .inl (upd (u.2 11) i.toNatClampNeg x))) = cjW a cA u' := by subst h; rfl
theorem cjS_12 (a : Nat → Nat) (cA : ClassId) (u u' : g_S) (i x : Int32) (h : u' = g_sA u 12 i x) : (cjW a cA u).set 17 (a 17, .inl (cA, 121, .inl (upd (u.2 12) i.toNatClampNeg x))) = cjW a cA u' := by subst h; rfl
theorem cjS_13 (a : Nat → Nat) (cA : ClassId) (u u' : g_S) (i x : Int32) (h : u' = g_sA u 13 i x) : (cjW a cA u).set 18 (a 18, .inl (cA, 121, .inl (upd (u.2 13) i.toNatClampNeg x))) = cjW a cA u' := by subst h; rfl
theorem cjS_14 (a : Nat → Nat) (cA : ClassId) (u u' : g_S) (i x : Int32) (h : u' = g_sA u 14 i x) : (cjW a cA u).set 19 (a 19, .inl (cA, 121, .inl (upd (u.2 14) i.toNatClampNeg x))) = cjW a cA u' := by subst h; rfl
theorem cjS_15 (a : Nat → Nat) (cA : ClassId) (u u' : g_S) (i x : Int32) (h : u' = g_sA u 15 i x) : (cjW a cA u).set 20 (a 20, .inl (cA, 121, .inl (upd (u.2 15) i.toNatClampNeg x))) = cjW a cA u' := by subst h; rfl
theorem cjS_16 (a : Nat → Nat) (cA : ClassId) (u u' : g_S) (i x : Int32) (h : u' = g_sA u 16 i x) : (cjW a cA u).set 21 (a 21, .inl (cA, 121, .inl (upd (u.2 16) i.toNatClampNeg x))) = cjW a cA u' := by subst h; rfl
theorem cjS_17 (a : Nat → Nat) (cA : ClassId) (u u' : g_S) (i x : Int32) (h : u' = g_sA u 17 i x) : (cjW a cA u).set 22 (a 22, .inl (cA, 60, .inl (upd (u.2 17) i.toNatClampNeg x))) = cjW a cA u' := by subst h; rfl
theorem cjS_18 (a : Nat → Nat) (cA : ClassId) (u u' : g_S) (i x : Int32) (h : u' = g_sA u 18 i x) : (cjW a cA u).set 23 (a 23, .inl (cA, 60, .inl (upd (u.2 18) i.toNatClampNeg x))) = cjW a cA u' := by subst h; rfl
theorem cjS_19 (a : Nat → Nat) (cA : ClassId) (u u' : g_S) (i x : Int32) (h : u' = g_sA u 19 i x) : (cjW a cA u).set 24 (a 24, .inl (cA, 60, .inl (upd (u.2 19) i.toNatClampNeg x))) = cjW a cA u' := by subst h; rfl
theorem cjS_20 (a : Nat → Nat) (cA : ClassId) (u u' : g_S) (i x : Int32) (h : u' = g_sA u 20 i x) : (cjW a cA u).set 25 (a 25, .inl (cA, 60, .inl (upd (u.2 20) i.toNatClampNeg x))) = cjW a cA u' := by subst h; rfl
theorem cjS_21 (a : Nat → Nat) (cA : ClassId) (u u' : g_S) (i x : Int32) (h : u' = g_sA u 21 i x) : (cjW a cA u).set 26 (a 26, .inl (cA, 60, .inl (upd (u.2 21) i.toNatClampNeg x))) = cjW a cA u' := by subst h; rfl
theorem cjS_22 (a : Nat → Nat) (cA : ClassId) (u u' : g_S) (i x : Int32) (h : u' = g_sA u 22 i x) : (cjW a cA u).set 27 (a 27, .inl (cA, 60, .inl (upd (u.2 22) i.toNatClampNeg x))) = cjW a cA u' := by subst h; rfl
theorem cjP_0 (a : Nat → Nat) (cA : ClassId) (u u' : g_S) (x : Int32) (h : u' = g_sI u 0 x) : (cjW a cA u).set 3 (a 3, .inr (0, ([.int (u.1 0), .ref (a 12), .ref (a 13), .ref (a 14), .ref (a 15), .ref (a 16), .ref (a 17), .ref (a 18), .ref (a 19), .ref (a 20), .ref (a 21)] : List Value).set 0 (.int x))) = cjW a cA u' := by subst h; rfl
theorem cjP_1 (a : Nat → Nat) (cA : ClassId) (u u' : g_S) (x : Int32) (h : u' = g_sI u 1 x) : (cjW a cA u).set 4 (a 4, .inr (1, ([.int (u.1 1), .ref (a 22), .ref (a 23), .ref (a 24), .ref (a 25), .ref (a 26), .ref (a 27)] : List Value).set 0 (.int x))) = cjW a cA u' := by subst h; rfl
def mdA (a : Nat → Nat) : List Nat := [a 0, a 1, a 2, a 3, a 4, a 5, a 6, a 7, a 8, a 9, a 10, a 11, a 12, a 13, a 14, a 15, a 16, a 17, a 18, a 19, a 20]
def mdW (a : Nat → Nat) (cA : ClassId) (u : g_S) : va_W := [(a 0, .inr (5, [.int (u.1 0), .ref (a 1), .ref (a 2), .ref (a 3), .ref (a 4), .ref (a 5), .ref (a 6), .ref (a 7), .int (u.1 1), .int (u.1 2), .ref (a 8), .ref (a 9), .ref (a 10), .ref (a 11), .ref (a 12), .ref (a 13), .ref (a 14), .ref (a 15), .ref (a 16), .ref (a 17), .ref (a 18), .ref (a 19), .ref (a 20), .int (u.1 3)])), (a 1, .inl (cA, 8, .inl (u.2 0))), (a 2, .inl (cA, 8, .inl (u.2 1))), (a 3, .inl (cA, 8, .inl (u.2 2))), (a 4, .inl (cA, 8, .inl (u.2 3))), (a 5, .inl (cA, 256, .inl (u.2 4))), (a 6, .inl (cA, 8, .inl (u.2 5))), (a 7, .inl (cA, 64, .inl (u.2 6))), (a 8, .inl (cA, 120, .inl (u.2 7))), (a 9, .inl (cA, 120, .inl (u.2 8))), (a 10, .inl (cA, 120, .inl (u.2 9))), (a 11, .inl (cA, 120, .inl (u.2 10))), (a 12, .inl (cA, 120, .inl (u.2 11))), (a 13, .inl (cA, 120, .inl (u.2 12))), (a 14, .inl (cA, 120, .inl (u.2 13))), (a 15, .inl (cA, 120, .inl (u.2 14))), (a 16, .inl (cA, 120, .inl (u.2 15))), (a 17, .inl (cA, 60, .inl (u.2 16))), (a 18, .inl (cA, 60, .inl (u.2 17))), (a 19, .inl (cA, 60, .inl (u.2 18))), (a 20, .inl (cA, 60, .inl (u.2 19)))]
theorem mdW_as (a : Nat → Nat) (cA : ClassId) (u : g_S) : (mdW a cA u).map Prod.fst = mdA a := rfl
theorem mdS_0 (a : Nat → Nat) (cA : ClassId) (u u' : g_S) (i x : Int32) (h : u' = g_sA u 0 i x) : (mdW a cA u).set 1 (a 1, .inl (cA, 8, .inl (upd (u.2 0) i.toNatClampNeg x))) = mdW a cA u' := by subst h; rfl
theorem mdS_1 (a : Nat → Nat) (cA : ClassId) (u u' : g_S) (i x : Int32) (h : u' = g_sA u 1 i x) : (mdW a cA u).set 2 (a 2, .inl (cA, 8, .inl (upd (u.2 1) i.toNatClampNeg x))) = mdW a cA u' := by subst h; rfl
theorem mdS_2 (a : Nat → Nat) (cA : ClassId) (u u' : g_S) (i x : Int32) (h : u' = g_sA u 2 i x) : (mdW a cA u).set 3 (a 3, .inl (cA, 8, .inl (upd (u.2 2) i.toNatClampNeg x))) = mdW a cA u' := by subst h; rfl
theorem mdS_3 (a : Nat → Nat) (cA : ClassId) (u u' : g_S) (i x : Int32) (h : u' = g_sA u 3 i x) : (mdW a cA u).set 4 (a 4, .inl (cA, 8, .inl (upd (u.2 3) i.toNatClampNeg x))) = mdW a cA u' := by subst h; rfl
theorem mdS_4 (a : Nat → Nat) (cA : ClassId) (u u' : g_S) (i x : Int32) (h : u' = g_sA u 4 i x) : (mdW a cA u).set 5 (a 5, .inl (cA, 256, .inl (upd (u.2 4) i.toNatClampNeg x))) = mdW a cA u' := by subst h; rfl
theorem mdS_5 (a : Nat → Nat) (cA : ClassId) (u u' : g_S) (i x : Int32) (h : u' = g_sA u 5 i x) : (mdW a cA u).set 6 (a 6, .inl (cA, 8, .inl (upd (u.2 5) i.toNatClampNeg x))) = mdW a cA u' := by subst h; rfl
theorem mdS_6 (a : Nat → Nat) (cA : ClassId) (u u' : g_S) (i x : Int32) (h : u' = g_sA u 6 i x) : (mdW a cA u).set 7 (a 7, .inl (cA, 64, .inl (upd (u.2 6) i.toNatClampNeg x))) = mdW a cA u' := by subst h; rfl
theorem mdS_7 (a : Nat → Nat) (cA : ClassId) (u u' : g_S) (i x : Int32) (h : u' = g_sA u 7 i x) : (mdW a cA u).set 8 (a 8, .inl (cA, 120, .inl (upd (u.2 7) i.toNatClampNeg x))) = mdW a cA u' := by subst h; rfl
theorem mdS_8 (a : Nat → Nat) (cA : ClassId) (u u' : g_S) (i x : Int32) (h : u' = g_sA u 8 i x) : (mdW a cA u).set 9 (a 9, .inl (cA, 120, .inl (upd (u.2 8) i.toNatClampNeg x))) = mdW a cA u' := by subst h; rfl
theorem mdS_9 (a : Nat → Nat) (cA : ClassId) (u u' : g_S) (i x : Int32) (h : u' = g_sA u 9 i x) : (mdW a cA u).set 10 (a 10, .inl (cA, 120, .inl (upd (u.2 9) i.toNatClampNeg x))) = mdW a cA u' := by subst h; rfl
theorem mdS_10 (a : Nat → Nat) (cA : ClassId) (u u' : g_S) (i x : Int32) (h : u' = g_sA u 10 i x) : (mdW a cA u).set 11 (a 11, .inl (cA, 120, .inl (upd (u.2 10) i.toNatClampNeg x))) = mdW a cA u' := by subst h; rfl
theorem mdS_11 (a : Nat → Nat) (cA : ClassId) (u u' : g_S) (i x : Int32) (h : u' = g_sA u 11 i x) : (mdW a cA u).set 12 (a 12, .inl (cA, 120, .inl (upd (u.2 11) i.toNatClampNeg x))) = mdW a cA u' := by subst h; rfl
theorem mdS_12 (a : Nat → Nat) (cA : ClassId) (u u' : g_S) (i x : Int32) (h : u' = g_sA u 12 i x) : (mdW a cA u).set 13 (a 13, .inl (cA, 120, .inl (upd (u.2 12) i.toNatClampNeg x))) = mdW a cA u' := by subst h; rfl
theorem mdS_13 (a : Nat → Nat) (cA : ClassId) (u u' : g_S) (i x : Int32) (h : u' = g_sA u 13 i x) : (mdW a cA u).set 14 (a 14, .inl (cA, 120, .inl (upd (u.2 13) i.toNatClampNeg x))) = mdW a cA u' := by subst h; rfl
theorem mdS_14 (a : Nat → Nat) (cA : ClassId) (u u' : g_S) (i x : Int32) (h : u' = g_sA u 14 i x) : (mdW a cA u).set 15 (a 15, .inl (cA, 120, .inl (upd (u.2 14) i.toNatClampNeg x))) = mdW a cA u' := by subst h; rfl
theorem mdS_15 (a : Nat → Nat) (cA : ClassId) (u u' : g_S) (i x : Int32) (h : u' = g_sA u 15 i x) : (mdW a cA u).set 16 (a 16, .inl (cA, 120, .inl (upd (u.2 15) i.toNatClampNeg x))) = mdW a cA u' := by subst h; rfl
theorem mdS_16 (a : Nat → Nat) (cA : ClassId) (u u' : g_S) (i x : Int32) (h : u' = g_sA u 16 i x) : (mdW a cA u).set 17 (a 17, .inl (cA, 60, .inl (upd (u.2 16) i.toNatClampNeg x))) = mdW a cA u' := by subst h; rfl
theorem mdS_17 (a : Nat → Nat) (cA : ClassId) (u u' : g_S) (i x : Int32) (h : u' = g_sA u 17 i x) : (mdW a cA u).set 18 (a 18, .inl (cA, 60, .inl (upd (u.2 17) i.toNatClampNeg x))) = mdW a cA u' := by subst h; rfl
theorem mdS_18 (a : Nat → Nat) (cA : ClassId) (u u' : g_S) (i x : Int32) (h : u' = g_sA u 18 i x) : (mdW a cA u).set 19 (a 19, .inl (cA, 60, .inl (upd (u.2 18) i.toNatClampNeg x))) = mdW a cA u' := by subst h; rfl
theorem mdS_19 (a : Nat → Nat) (cA : ClassId) (u u' : g_S) (i x : Int32) (h : u' = g_sA u 19 i x) : (mdW a cA u).set 20 (a 20, .inl (cA, 60, .inl (upd (u.2 19) i.toNatClampNeg x))) = mdW a cA u' := by subst h; rfl
theorem mdP_0 (a : Nat → Nat) (cA : ClassId) (u u' : g_S) (x : Int32) (h : u' = g_sI u 0 x) : (mdW a cA u).set 0 (a 0, .inr (5, ([.int (u.1 0), .ref (a 1), .ref (a 2), .ref (a 3), .ref (a 4), .ref (a 5), .ref (a 6), .ref (a 7), .int (u.1 1), .int (u.1 2), .ref (a 8), .ref (a 9), .ref (a 10), .ref (a 11), .ref (a 12), .ref (a 13), .ref (a 14), .ref (a 15), .ref (a 16), .ref (a 17), .ref (a 18), .ref (a 19), .ref (a 20), .int (u.1 3)] : List Value).set 0 (.int x))) = mdW a cA u' := by subst h; rfl
theorem mdP_1 (a : Nat → Nat) (cA : ClassId) (u u' : g_S) (x : Int32) (h : u' = g_sI u 1 x) : (mdW a cA u).set 0 (a 0, .inr (5, ([.int (u.1 0), .ref (a 1), .ref (a 2), .ref (a 3), .ref (a 4), .ref (a 5), .ref (a 6), .ref (a 7), .int (u.1 1), .int (u.1 2), .ref (a 8), .ref (a 9), .ref (a 10), .ref (a 11), .ref (a 12), .ref (a 13), .ref (a 14), .ref (a 15), .ref (a 16), .ref (a 17), .ref (a 18), .ref (a 19), .ref (a 20), .int (u.1 3)] : List Value).set 8 (.int x))) = mdW a cA u' := by subst h; rfl
theorem mdP_2 (a : Nat → Nat) (cA : ClassId) (u u' : g_S) (x : Int32) (h : u' = g_sI u 2 x) : (mdW a cA u).set 0 (a 0, .inr (5, ([.int (u.1 0), .ref (a 1), .ref (a 2), .ref (a 3), .ref (a 4), .ref (a 5), .ref (a 6), .ref (a 7), .int (u.1 1), .int (u.1 2), .ref (a 8), .ref (a 9), .ref (a 10), .ref (a 11), .ref (a 12), .ref (a 13), .ref (a 14), .ref (a 15), .ref (a 16), .ref (a 17), .ref (a 18), .ref (a 19), .ref (a 20), .int (u.1 3)] : List Value).set 9 (.int x))) = mdW a cA u' := by subst h; rfl
theorem mdP_3 (a : Nat → Nat) (cA : ClassId) (u u' : g_S) (x : Int32) (h : u' = g_sI u 3 x) : (mdW a cA u).set 0 (a 0, .inr (5, ([.int (u.1 0), .ref (a 1), .ref (a 2), .ref (a 3), .ref (a 4), .ref (a 5), .ref (a 6), .ref (a 7), .int (u.1 1), .int (u.1 2), .ref (a 8), .ref (a 9), .ref (a 10), .ref (a 11), .ref (a 12), .ref (a 13), .ref (a 14), .ref (a 15), .ref (a 16), .ref (a 17), .ref (a 18), .ref (a 19), .ref (a 20), .int (u.1 3)] : List Value).set 23 (.int x))) = mdW a cA u' := by subst h; rfl
end
section
theorem igX4 : ∀ w ∈ u_ws RX4 TX4 4, w ∈ gT := fun w h => gT_of (inX4 w h) ((by decide +kernel : ∀ w ∈ u_ws RX4 TX4 4, goodWord w = true) w h)
theorem igX3 : ∀ w ∈ u_ws RX3 TX3 5, w ∈ gT := fun w h => gT_of (inX3 w h) ((by decide +kernel : ∀ w ∈ u_ws RX3 TX3 5, goodWord w = true) w h)
theorem igX2 : ∀ w ∈ u_ws RX2 TX2 2, w ∈ gT := fun w h => gT_of (inX2 w h) ((by decide +kernel : ∀ w ∈ u_ws RX2 TX2 2, goodWord w = true) w h)
theorem igX0 : ∀ w ∈ u_ws RX0 TX0 11, w ∈ gT := fun w h => gT_of (inX0 w h) ((by decide +kernel : ∀ w ∈ u_ws RX0 TX0 11, goodWord w = true) w h)
theorem igX1 : ∀ w ∈ u_ws RX1 TX1 7, w ∈ gT := fun w h => gT_of (inX1 w h) ((by decide +kernel : ∀ w ∈ u_ws RX1 TX1 7, goodWord w = true) w h)
theorem igX6 : ∀ w ∈ u_ws RX6 TX6 24, w ∈ gT := fun w h => gT_of (inX6 w h) ((by decide +kernel : ∀ w ∈ u_ws RX6 TX6 24, goodWord w = true) w h)
theorem kcj_0 : (.classLink RX4 190 "java/lang/IllegalArgumentException" : Cond) ∈ gT := gT_of (List.mem_append_right _ (List.mem_of_getElem? (i := 184) (by decide +kernel))) (by decide +kernel)
theorem kcj_1 : (.initialized "java/lang/IllegalArgumentException" : Cond) ∈ gT := gT_of (List.mem_append_right _ (List.mem_of_getElem? (i := 11) (by decide +kernel))) (by decide +kernel)
theorem kcj_2 : (.classLink RX4 195 "java/lang/IndexOutOfBoundsException" : Cond) ∈ gT := gT_of (List.mem_append_right _ (List.mem_of_getElem? (i := 257) (by decide +kernel))) (by decide +kernel)
theorem kcj_3 : (.initialized "java/lang/IndexOutOfBoundsException" : Cond) ∈ gT := gT_of (List.mem_append_right _ (List.mem_of_getElem? (i := 12) (by decide +kernel))) (by decide +kernel)
theorem kcj_4 : (.fieldLink RX4 12 "CallJoin" "rules" "LCallJoin$Rules;" : Cond) ∈ gT := gT_of (List.mem_append_right _ (List.mem_of_getElem? (i := 156) (by decide +kernel))) (by decide +kernel)
theorem kcj_5 : (.fieldLink RX4 49 "CallJoin$Rules" "distance" "[I" : Cond) ∈ gT := gT_of (List.mem_append_right _ (List.mem_of_getElem? (i := 35) (by decide +kernel))) (by decide +kernel)
theorem kcj_6 : (.fieldLink RX4 53 "CallJoin$Rules" "span" "[I" : Cond) ∈ gT := gT_of (List.mem_append_right _ (List.mem_of_getElem? (i := 37) (by decide +kernel))) (by decide +kernel)
theorem kcj_7 : (.fieldLink RX4 56 "CallJoin$Rules" "needOver" "[I" : Cond) ∈ gT := gT_of (List.mem_append_right _ (List.mem_of_getElem? (i := 39) (by decide +kernel))) (by decide +kernel)
theorem kcj_8 : (.fieldLink RX4 59 "CallJoin$Rules" "needUnder" "[I" : Cond) ∈ gT := gT_of (List.mem_append_right _ (List.mem_of_getElem? (i := 41) (by decide +kernel))) (by decide +kernel)
theorem kcj_9 : (.constant RX4 48 (100001 : Int32) : Cond) ∈ gT := gT_of (List.mem_append_right _ (List.mem_of_getElem? (i := 273) (by decide +kernel))) (by decide +kernel)
theorem kcj_10 : (.fieldLink RX4 62 "CallJoin$Rules" "weights" "[I" : Cond) ∈ gT := gT_of (List.mem_append_right _ (List.mem_of_getElem? (i := 43) (by decide +kernel))) (by decide +kernel)
theorem kcj_11 : (.classLink RX4 205 "java/lang/UnsupportedOperationException" : Cond) ∈ gT := gT_of (List.mem_append_right _ (List.mem_of_getElem? (i := 293) (by decide +kernel))) (by decide +kernel)
theorem kcj_12 : (.initialized "java/lang/UnsupportedOperationException" : Cond) ∈ gT := gT_of (List.mem_append_right _ (List.mem_of_getElem? (i := 13) (by decide +kernel))) (by decide +kernel)
theorem kcj_13 : (.fieldLink RX2 15 "CallJoin$Roads" "points" "[I" : Cond) ∈ gT := gT_of (List.mem_append_right _ (List.mem_of_getElem? (i := 64) (by decide +kernel))) (by decide +kernel)
theorem kcj_14 : (.fieldLink RX2 9 "CallJoin$Roads" "size" "[I" : Cond) ∈ gT := gT_of (List.mem_append_right _ (List.mem_of_getElem? (i := 62) (by decide +kernel))) (by decide +kernel)
theorem kcj_15 : (.fieldLink RX4 19 "CallJoin" "roads" "LCallJoin$Roads;" : Cond) ∈ gT := gT_of (List.mem_append_right _ (List.mem_of_getElem? (i := 157) (by decide +kernel))) (by decide +kernel)
theorem kcj_16 : (.constant RX4 65 (100000000 : Int32) : Cond) ∈ gT := gT_of (List.mem_append_right _ (List.mem_of_getElem? (i := 289) (by decide +kernel))) (by decide +kernel)
theorem kcj_17 : (.fieldLink RX4 66 "CallJoin$Roads" "size" "[I" : Cond) ∈ gT := gT_of (List.mem_append_right _ (List.mem_of_getElem? (i := 63) (by decide +kernel))) (by decide +kernel)
theorem kcj_18 : (.fieldLink RX0 9 "CallJoin$Calls" "size" "I" : Cond) ∈ gT := gT_of (List.mem_append_right _ (List.mem_of_getElem? (i := 76) (by decide +kernel))) (by decide +kernel)
theorem kcj_19 : (.fieldLink RX0 31 "CallJoin$Calls" "time" "[I" : Cond) ∈ gT := gT_of (List.mem_append_right _ (List.mem_of_getElem? (i := 88) (by decide +kernel))) (by decide +kernel)
theorem kcj_20 : (.fieldLink RX4 26 "CallJoin" "calls" "LCallJoin$Calls;" : Cond) ∈ gT := gT_of (List.mem_append_right _ (List.mem_of_getElem? (i := 158) (by decide +kernel))) (by decide +kernel)
theorem kcj_21 : (.fieldLink RX0 15 "CallJoin$Calls" "line" "[I" : Cond) ∈ gT := gT_of (List.mem_append_right _ (List.mem_of_getElem? (i := 78) (by decide +kernel))) (by decide +kernel)
theorem kcj_22 : (.fieldLink RX0 19 "CallJoin$Calls" "kind" "[I" : Cond) ∈ gT := gT_of (List.mem_append_right _ (List.mem_of_getElem? (i := 80) (by decide +kernel))) (by decide +kernel)
theorem kcj_23 : (.fieldLink RX0 22 "CallJoin$Calls" "point" "[I" : Cond) ∈ gT := gT_of (List.mem_append_right _ (List.mem_of_getElem? (i := 82) (by decide +kernel))) (by decide +kernel)
theorem kcj_24 : (.fieldLink RX0 25 "CallJoin$Calls" "words" "[I" : Cond) ∈ gT := gT_of (List.mem_append_right _ (List.mem_of_getElem? (i := 84) (by decide +kernel))) (by decide +kernel)
theorem kcj_25 : (.fieldLink RX0 28 "CallJoin$Calls" "road" "[I" : Cond) ∈ gT := gT_of (List.mem_append_right _ (List.mem_of_getElem? (i := 86) (by decide +kernel))) (by decide +kernel)
theorem kcj_26 : (.fieldLink RX0 37 "CallJoin$Calls" "reason" "[I" : Cond) ∈ gT := gT_of (List.mem_append_right _ (List.mem_of_getElem? (i := 92) (by decide +kernel))) (by decide +kernel)
theorem kcj_27 : (.fieldLink RX0 40 "CallJoin$Calls" "how" "[I" : Cond) ∈ gT := gT_of (List.mem_append_right _ (List.mem_of_getElem? (i := 94) (by decide +kernel))) (by decide +kernel)
theorem kcj_28 : (.fieldLink RX0 43 "CallJoin$Calls" "marks" "[I" : Cond) ∈ gT := gT_of (List.mem_append_right _ (List.mem_of_getElem? (i := 96) (by decide +kernel))) (by decide +kernel)
theorem kcj_29 : (.fieldLink RX4 33 "CallJoin" "events" "LCallJoin$Events;" : Cond) ∈ gT := gT_of (List.mem_append_right _ (List.mem_of_getElem? (i := 159) (by decide +kernel))) (by decide +kernel)
theorem kcj_30 : (.fieldLink RX4 121 "CallJoin$Events" "state" "[I" : Cond) ∈ gT := gT_of (List.mem_append_right _ (List.mem_of_getElem? (i := 130) (by decide +kernel))) (by decide +kernel)
theorem kcj_31 : (.fieldLink RX4 95 "CallJoin$Calls" "event" "[I" : Cond) ∈ gT := gT_of (List.mem_append_right _ (List.mem_of_getElem? (i := 91) (by decide +kernel))) (by decide +kernel)
theorem kcj_32 : (.fieldLink RX4 267 "CallJoin$Calls" "time" "[I" : Cond) ∈ gT := gT_of (List.mem_append_right _ (List.mem_of_getElem? (i := 89) (by decide +kernel))) (by decide +kernel)
theorem kcj_33 : (.fieldLink RX4 111 "CallJoin$Calls" "kind" "[I" : Cond) ∈ gT := gT_of (List.mem_append_right _ (List.mem_of_getElem? (i := 81) (by decide +kernel))) (by decide +kernel)
theorem kcj_34 : (.fieldLink RX4 232 "CallJoin$Calls" "line" "[I" : Cond) ∈ gT := gT_of (List.mem_append_right _ (List.mem_of_getElem? (i := 79) (by decide +kernel))) (by decide +kernel)
theorem kcj_35 : (.fieldLink RX4 80 "CallJoin$Calls" "size" "I" : Cond) ∈ gT := gT_of (List.mem_append_right _ (List.mem_of_getElem? (i := 77) (by decide +kernel))) (by decide +kernel)
theorem kcj_36 : (.fieldLink RX4 91 "CallJoin$Calls" "reason" "[I" : Cond) ∈ gT := gT_of (List.mem_append_right _ (List.mem_of_getElem? (i := 93) (by decide +kernel))) (by decide +kernel)
theorem kcj_37 : (.fieldLink RX4 118 "CallJoin$Calls" "how" "[I" : Cond) ∈ gT := gT_of (List.mem_append_right _ (List.mem_of_getElem? (i := 95) (by decide +kernel))) (by decide +kernel)
theorem kcj_38 : (.fieldLink RX1 15 "CallJoin$Events" "state" "[I" : Cond) ∈ gT := gT_of (List.mem_append_right _ (List.mem_of_getElem? (i := 129) (by decide +kernel))) (by decide +kernel)
theorem kcj_39 : (.fieldLink RX1 19 "CallJoin$Events" "kind" "[I" : Cond) ∈ gT := gT_of (List.mem_append_right _ (List.mem_of_getElem? (i := 131) (by decide +kernel))) (by decide +kernel)
theorem kcj_40 : (.fieldLink RX1 25 "CallJoin$Events" "road" "[I" : Cond) ∈ gT := gT_of (List.mem_append_right _ (List.mem_of_getElem? (i := 135) (by decide +kernel))) (by decide +kernel)
theorem kcj_41 : (.initialized RX4 : Cond) ∈ gT := gT_of (List.mem_append_right _ (List.mem_of_getElem? (i := 1) (by decide +kernel))) (by decide +kernel)
theorem kcj_42 : (.static yX4_eastOf : Cond) ∈ gT := gT_of (List.mem_append_right _ (List.mem_of_getElem? (i := 380) (by decide +kernel))) (by decide +kernel)
theorem kcj_43 : (.static yX4_northOf : Cond) ∈ gT := gT_of (List.mem_append_right _ (List.mem_of_getElem? (i := 383) (by decide +kernel))) (by decide +kernel)
theorem kcj_44 : (.constantLong RX2 33 (2500 : Int64) : Cond) ∈ gT := gT_of (List.mem_append_right _ (List.mem_of_getElem? (i := 390) (by decide +kernel))) (by decide +kernel)
theorem kcj_45 : (.static yX4_squareBetween : Cond) ∈ gT := gT_of (List.mem_append_right _ (List.mem_of_getElem? (i := 386) (by decide +kernel))) (by decide +kernel)
theorem kcj_46 : (.fieldLink RX4 134 "CallJoin$Events" "road" "[I" : Cond) ∈ gT := gT_of (List.mem_append_right _ (List.mem_of_getElem? (i := 136) (by decide +kernel))) (by decide +kernel)
theorem kcj_47 : (.fieldLink RX4 247 "CallJoin$Calls" "point" "[I" : Cond) ∈ gT := gT_of (List.mem_append_right _ (List.mem_of_getElem? (i := 83) (by decide +kernel))) (by decide +kernel)
theorem kcj_48 : (.fieldLink RX4 137 "CallJoin$Events" "from" "[I" : Cond) ∈ gT := gT_of (List.mem_append_right _ (List.mem_of_getElem? (i := 138) (by decide +kernel))) (by decide +kernel)
theorem kcj_49 : (.fieldLink RX4 145 "CallJoin$Events" "to" "[I" : Cond) ∈ gT := gT_of (List.mem_append_right _ (List.mem_of_getElem? (i := 140) (by decide +kernel))) (by decide +kernel)
theorem kcj_50 : (.fieldLink RX4 250 "CallJoin$Calls" "road" "[I" : Cond) ∈ gT := gT_of (List.mem_append_right _ (List.mem_of_getElem? (i := 87) (by decide +kernel))) (by decide +kernel)
theorem kcj_51 : (.fieldLink RX4 94 "CallJoin$Events" "size" "I" : Cond) ∈ gT := gT_of (List.mem_append_right _ (List.mem_of_getElem? (i := 128) (by decide +kernel))) (by decide +kernel)
theorem kcj_52 : (.fieldLink RX4 124 "CallJoin$Events" "first" "[I" : Cond) ∈ gT := gT_of (List.mem_append_right _ (List.mem_of_getElem? (i := 134) (by decide +kernel))) (by decide +kernel)
theorem kcj_53 : (.fieldLink RX3 24 "CallJoin$Rules" "weights" "[I" : Cond) ∈ gT := gT_of (List.mem_append_right _ (List.mem_of_getElem? (i := 42) (by decide +kernel))) (by decide +kernel)
theorem kcj_54 : (.fieldLink RX3 21 "CallJoin$Rules" "needUnder" "[I" : Cond) ∈ gT := gT_of (List.mem_append_right _ (List.mem_of_getElem? (i := 40) (by decide +kernel))) (by decide +kernel)
theorem kcj_55 : (.fieldLink RX3 18 "CallJoin$Rules" "needOver" "[I" : Cond) ∈ gT := gT_of (List.mem_append_right _ (List.mem_of_getElem? (i := 38) (by decide +kernel))) (by decide +kernel)
theorem kcj_56 : (.constantLong RX4 265 (4 : Int64) : Cond) ∈ gT := gT_of (List.mem_append_right _ (List.mem_of_getElem? (i := 412) (by decide +kernel))) (by decide +kernel)
theorem kcj_57 : (.fieldLink RX4 154 "CallJoin$Calls" "words" "[I" : Cond) ∈ gT := gT_of (List.mem_append_right _ (List.mem_of_getElem? (i := 85) (by decide +kernel))) (by decide +kernel)
theorem kcj_58 : (.fieldLink RX1 9 "CallJoin$Events" "size" "I" : Cond) ∈ gT := gT_of (List.mem_append_right _ (List.mem_of_getElem? (i := 127) (by decide +kernel))) (by decide +kernel)
theorem kcj_59 : (.fieldLink RX1 22 "CallJoin$Events" "first" "[I" : Cond) ∈ gT := gT_of (List.mem_append_right _ (List.mem_of_getElem? (i := 133) (by decide +kernel))) (by decide +kernel)
theorem kcj_60 : (.fieldLink RX4 101 "CallJoin$Calls" "marks" "[I" : Cond) ∈ gT := gT_of (List.mem_append_right _ (List.mem_of_getElem? (i := 97) (by decide +kernel))) (by decide +kernel)
theorem kcj_61 : (.classLink RX4 200 "java/lang/IllegalStateException" : Cond) ∈ gT := gT_of (List.mem_append_right _ (List.mem_of_getElem? (i := 446) (by decide +kernel))) (by decide +kernel)
theorem kcj_62 : (.initialized "java/lang/IllegalStateException" : Cond) ∈ gT := gT_of (List.mem_append_right _ (List.mem_of_getElem? (i := 14) (by decide +kernel))) (by decide +kernel)
theorem kcj_63 : (.fieldLink RX0 34 "CallJoin$Calls" "event" "[I" : Cond) ∈ gT := gT_of (List.mem_append_right _ (List.mem_of_getElem? (i := 90) (by decide +kernel))) (by decide +kernel)
theorem kcj_64 : (.methodLink RX4 140 Lib.Math.min.name : Cond) ∈ gT := gT_of (List.mem_append_right _ (List.mem_of_getElem? (i := 492) (by decide +kernel))) (by decide +kernel)
theorem kcj_65 : (.static Lib.Math.min.name : Cond) ∈ gT := gT_of (List.mem_append_right _ (List.mem_of_getElem? (i := 493) (by decide +kernel))) (by decide +kernel)
theorem kcj_66 : (.initialized "java/lang/Math" : Cond) ∈ gT := gT_of (List.mem_append_right _ (List.mem_of_getElem? (i := 15) (by decide +kernel))) (by decide +kernel)
theorem kcj_67 : (.code Lib.Math.min.name Lib.Math.min.code 2 (some .int) : Cond) ∈ gT := gT_of (List.mem_append_right _ (List.mem_of_getElem? (i := 494) (by decide +kernel))) (by decide +kernel)
theorem kcj_68 : (.methodLink RX4 148 Lib.Math.max.name : Cond) ∈ gT := gT_of (List.mem_append_right _ (List.mem_of_getElem? (i := 495) (by decide +kernel))) (by decide +kernel)
theorem kcj_69 : (.static Lib.Math.max.name : Cond) ∈ gT := gT_of (List.mem_append_right _ (List.mem_of_getElem? (i := 496) (by decide +kernel))) (by decide +kernel)
theorem kcj_70 : (.code Lib.Math.max.name Lib.Math.max.code 2 (some .int) : Cond) ∈ gT := gT_of (List.mem_append_right _ (List.mem_of_getElem? (i := 497) (by decide +kernel))) (by decide +kernel)
theorem kcj_71 : (.classLink RX4 160 "java/lang/ArithmeticException" : Cond) ∈ gT := gT_of (List.mem_append_right _ (List.mem_of_getElem? (i := 517) (by decide +kernel))) (by decide +kernel)
theorem kcj_72 : (.initialized "java/lang/ArithmeticException" : Cond) ∈ gT := gT_of (List.mem_append_right _ (List.mem_of_getElem? (i := 16) (by decide +kernel))) (by decide +kernel)
theorem kcj_73 : (.fieldLink RX4 170 "CallJoin$Events" "kind" "[I" : Cond) ∈ gT := gT_of (List.mem_append_right _ (List.mem_of_getElem? (i := 132) (by decide +kernel))) (by decide +kernel)
theorem kcj_74 : (.methodLink RX4 45 yX4_needRange : Cond) ∈ gT := gT_of (List.mem_append_right _ (List.mem_of_getElem? (i := 254) (by decide +kernel))) (by decide +kernel)
theorem kcj_75 : (.static yX4_needRange : Cond) ∈ gT := gT_of (List.mem_append_right _ (List.mem_of_getElem? (i := 255) (by decide +kernel))) (by decide +kernel)
theorem kcj_76 : (.methodLink RX4 37 yX4_isBelow : Cond) ∈ gT := gT_of (List.mem_append_right _ (List.mem_of_getElem? (i := 178) (by decide +kernel))) (by decide +kernel)
theorem kcj_77 : (.static yX4_isBelow : Cond) ∈ gT := gT_of (List.mem_append_right _ (List.mem_of_getElem? (i := 179) (by decide +kernel))) (by decide +kernel)
theorem kcj_78 : (.methodLink RX4 41 yX4_needKnown : Cond) ∈ gT := gT_of (List.mem_append_right _ (List.mem_of_getElem? (i := 181) (by decide +kernel))) (by decide +kernel)
theorem kcj_79 : (.static yX4_needKnown : Cond) ∈ gT := gT_of (List.mem_append_right _ (List.mem_of_getElem? (i := 182) (by decide +kernel))) (by decide +kernel)
theorem kcj_80 : (.methodLink RX4 69 yX4_needRoom : Cond) ∈ gT := gT_of (List.mem_append_right _ (List.mem_of_getElem? (i := 290) (by decide +kernel))) (by decide +kernel)
theorem kcj_81 : (.static yX4_needRoom : Cond) ∈ gT := gT_of (List.mem_append_right _ (List.mem_of_getElem? (i := 291) (by decide +kernel))) (by decide +kernel)
theorem kcj_82 : (.methodLink RX4 72 yX2_append : Cond) ∈ gT := gT_of (List.mem_append_right _ (List.mem_of_getElem? (i := 309) (by decide +kernel))) (by decide +kernel)
theorem kcj_83 : (.instanceMethod yX2_append : Cond) ∈ gT := gT_of (List.mem_append_right _ (List.mem_of_getElem? (i := 310) (by decide +kernel))) (by decide +kernel)
theorem kcj_84 : (.selects RX2 yX2_append yX2_append : Cond) ∈ gT := gT_of (List.mem_append_right _ (List.mem_of_getElem? (i := 311) (by decide +kernel))) (by decide +kernel)
theorem kcj_85 : (.initialized RX2 : Cond) ∈ gT := gT_of (List.mem_append_right _ (List.mem_of_getElem? (i := 4) (by decide +kernel))) (by decide +kernel)
theorem kcj_86 : (.methodLink RX4 210 yX0_latestTime : Cond) ∈ gT := gT_of (List.mem_append_right _ (List.mem_of_getElem? (i := 324) (by decide +kernel))) (by decide +kernel)
theorem kcj_87 : (.instanceMethod yX0_latestTime : Cond) ∈ gT := gT_of (List.mem_append_right _ (List.mem_of_getElem? (i := 325) (by decide +kernel))) (by decide +kernel)
theorem kcj_88 : (.selects RX0 yX0_latestTime yX0_latestTime : Cond) ∈ gT := gT_of (List.mem_append_right _ (List.mem_of_getElem? (i := 326) (by decide +kernel))) (by decide +kernel)
theorem kcj_89 : (.initialized RX0 : Cond) ∈ gT := gT_of (List.mem_append_right _ (List.mem_of_getElem? (i := 5) (by decide +kernel))) (by decide +kernel)
theorem kcj_90 : (.methodLink RX4 213 yX0_isHoax : Cond) ∈ gT := gT_of (List.mem_append_right _ (List.mem_of_getElem? (i := 344) (by decide +kernel))) (by decide +kernel)
theorem kcj_91 : (.instanceMethod yX0_isHoax : Cond) ∈ gT := gT_of (List.mem_append_right _ (List.mem_of_getElem? (i := 345) (by decide +kernel))) (by decide +kernel)
theorem kcj_92 : (.selects RX0 yX0_isHoax yX0_isHoax : Cond) ∈ gT := gT_of (List.mem_append_right _ (List.mem_of_getElem? (i := 346) (by decide +kernel))) (by decide +kernel)
theorem kcj_93 : (.methodLink RX4 104 yX4_isInOpenEvent : Cond) ∈ gT := gT_of (List.mem_append_right _ (List.mem_of_getElem? (i := 348) (by decide +kernel))) (by decide +kernel)
theorem kcj_94 : (.instanceMethod yX4_isInOpenEvent : Cond) ∈ gT := gT_of (List.mem_append_right _ (List.mem_of_getElem? (i := 350) (by decide +kernel))) (by decide +kernel)
theorem kcj_95 : (.selects RX4 yX4_isInOpenEvent yX4_isInOpenEvent : Cond) ∈ gT := gT_of (List.mem_append_left _ (by decide +kernel)) (by decide +kernel)
theorem kcj_96 : (.methodLink RX4 235 yX4_canBeReason : Cond) ∈ gT := gT_of (List.mem_append_right _ (List.mem_of_getElem? (i := 340) (by decide +kernel))) (by decide +kernel)
theorem kcj_97 : (.instanceMethod yX4_canBeReason : Cond) ∈ gT := gT_of (List.mem_append_right _ (List.mem_of_getElem? (i := 342) (by decide +kernel))) (by decide +kernel)
theorem kcj_98 : (.selects RX4 yX4_canBeReason yX4_canBeReason : Cond) ∈ gT := gT_of (List.mem_append_left _ (by decide +kernel)) (by decide +kernel)
theorem kcj_99 : (.methodLink RX4 238 yX4_isWithinSpan : Cond) ∈ gT := gT_of (List.mem_append_right _ (List.mem_of_getElem? (i := 352) (by decide +kernel))) (by decide +kernel)
theorem kcj_100 : (.instanceMethod yX4_isWithinSpan : Cond) ∈ gT := gT_of (List.mem_append_right _ (List.mem_of_getElem? (i := 354) (by decide +kernel))) (by decide +kernel)
theorem kcj_101 : (.selects RX4 yX4_isWithinSpan yX4_isWithinSpan : Cond) ∈ gT := gT_of (List.mem_append_left _ (by decide +kernel)) (by decide +kernel)
theorem kcj_102 : (.methodLink RX4 270 yX4_eastOf : Cond) ∈ gT := gT_of (List.mem_append_right _ (List.mem_of_getElem? (i := 388) (by decide +kernel))) (by decide +kernel)
theorem kcj_103 : (.methodLink RX4 273 yX4_northOf : Cond) ∈ gT := gT_of (List.mem_append_right _ (List.mem_of_getElem? (i := 389) (by decide +kernel))) (by decide +kernel)
theorem kcj_104 : (.methodLink RX2 18 yX2_isNearPiece : Cond) ∈ gT := gT_of (List.mem_append_right _ (List.mem_of_getElem? (i := 376) (by decide +kernel))) (by decide +kernel)
theorem kcj_105 : (.static yX2_isNearPiece : Cond) ∈ gT := gT_of (List.mem_append_right _ (List.mem_of_getElem? (i := 377) (by decide +kernel))) (by decide +kernel)
theorem kcj_106 : (.methodLink RX4 251 yX2_isNear : Cond) ∈ gT := gT_of (List.mem_append_right _ (List.mem_of_getElem? (i := 372) (by decide +kernel))) (by decide +kernel)
theorem kcj_107 : (.instanceMethod yX2_isNear : Cond) ∈ gT := gT_of (List.mem_append_right _ (List.mem_of_getElem? (i := 373) (by decide +kernel))) (by decide +kernel)
theorem kcj_108 : (.selects RX2 yX2_isNear yX2_isNear : Cond) ∈ gT := gT_of (List.mem_append_right _ (List.mem_of_getElem? (i := 374) (by decide +kernel))) (by decide +kernel)
theorem kcj_109 : (.methodLink RX4 241 yX1_isWatchedFor : Cond) ∈ gT := gT_of (List.mem_append_right _ (List.mem_of_getElem? (i := 364) (by decide +kernel))) (by decide +kernel)
theorem kcj_110 : (.instanceMethod yX1_isWatchedFor : Cond) ∈ gT := gT_of (List.mem_append_right _ (List.mem_of_getElem? (i := 365) (by decide +kernel))) (by decide +kernel)
theorem kcj_111 : (.selects RX1 yX1_isWatchedFor yX1_isWatchedFor : Cond) ∈ gT := gT_of (List.mem_append_right _ (List.mem_of_getElem? (i := 366) (by decide +kernel))) (by decide +kernel)
theorem kcj_112 : (.initialized RX1 : Cond) ∈ gT := gT_of (List.mem_append_right _ (List.mem_of_getElem? (i := 6) (by decide +kernel))) (by decide +kernel)
theorem kcj_113 : (.methodLink RX4 244 yX4_isOnStretch : Cond) ∈ gT := gT_of (List.mem_append_right _ (List.mem_of_getElem? (i := 368) (by decide +kernel))) (by decide +kernel)
theorem kcj_114 : (.instanceMethod yX4_isOnStretch : Cond) ∈ gT := gT_of (List.mem_append_right _ (List.mem_of_getElem? (i := 370) (by decide +kernel))) (by decide +kernel)
theorem kcj_115 : (.selects RX4 yX4_isOnStretch yX4_isOnStretch : Cond) ∈ gT := gT_of (List.mem_append_left _ (by decide +kernel)) (by decide +kernel)
theorem kcj_116 : (.methodLink RX4 262 yX3_meetsNeed : Cond) ∈ gT := gT_of (List.mem_append_right _ (List.mem_of_getElem? (i := 407) (by decide +kernel))) (by decide +kernel)
theorem kcj_117 : (.instanceMethod yX3_meetsNeed : Cond) ∈ gT := gT_of (List.mem_append_right _ (List.mem_of_getElem? (i := 408) (by decide +kernel))) (by decide +kernel)
theorem kcj_118 : (.selects RX3 yX3_meetsNeed yX3_meetsNeed : Cond) ∈ gT := gT_of (List.mem_append_right _ (List.mem_of_getElem? (i := 409) (by decide +kernel))) (by decide +kernel)
theorem kcj_119 : (.initialized RX3 : Cond) ∈ gT := gT_of (List.mem_append_right _ (List.mem_of_getElem? (i := 2) (by decide +kernel))) (by decide +kernel)
theorem kcj_120 : (.methodLink RX4 258 yX4_squareBetween : Cond) ∈ gT := gT_of (List.mem_append_right _ (List.mem_of_getElem? (i := 411) (by decide +kernel))) (by decide +kernel)
theorem kcj_121 : (.methodLink RX4 157 yX3_weigh : Cond) ∈ gT := gT_of (List.mem_append_right _ (List.mem_of_getElem? (i := 403) (by decide +kernel))) (by decide +kernel)
theorem kcj_122 : (.instanceMethod yX3_weigh : Cond) ∈ gT := gT_of (List.mem_append_right _ (List.mem_of_getElem? (i := 404) (by decide +kernel))) (by decide +kernel)
theorem kcj_123 : (.selects RX3 yX3_weigh yX3_weigh : Cond) ∈ gT := gT_of (List.mem_append_right _ (List.mem_of_getElem? (i := 405) (by decide +kernel))) (by decide +kernel)
theorem kcj_124 : (.methodLink RX4 255 yX4_isCandidate : Cond) ∈ gT := gT_of (List.mem_append_right _ (List.mem_of_getElem? (i := 395) (by decide +kernel))) (by decide +kernel)
theorem kcj_125 : (.instanceMethod yX4_isCandidate : Cond) ∈ gT := gT_of (List.mem_append_right _ (List.mem_of_getElem? (i := 397) (by decide +kernel))) (by decide +kernel)
theorem kcj_126 : (.selects RX4 yX4_isCandidate yX4_isCandidate : Cond) ∈ gT := gT_of (List.mem_append_left _ (by decide +kernel)) (by decide +kernel)
theorem kcj_127 : (.methodLink RX4 167 yX4_agreement : Cond) ∈ gT := gT_of (List.mem_append_right _ (List.mem_of_getElem? (i := 399) (by decide +kernel))) (by decide +kernel)
theorem kcj_128 : (.instanceMethod yX4_agreement : Cond) ∈ gT := gT_of (List.mem_append_right _ (List.mem_of_getElem? (i := 401) (by decide +kernel))) (by decide +kernel)
theorem kcj_129 : (.selects RX4 yX4_agreement yX4_agreement : Cond) ∈ gT := gT_of (List.mem_append_left _ (by decide +kernel)) (by decide +kernel)
theorem kcj_130 : (.methodLink RX4 216 yX4_latestOfLine : Cond) ∈ gT := gT_of (List.mem_append_right _ (List.mem_of_getElem? (i := 336) (by decide +kernel))) (by decide +kernel)
theorem kcj_131 : (.instanceMethod yX4_latestOfLine : Cond) ∈ gT := gT_of (List.mem_append_right _ (List.mem_of_getElem? (i := 338) (by decide +kernel))) (by decide +kernel)
theorem kcj_132 : (.selects RX4 yX4_latestOfLine yX4_latestOfLine : Cond) ∈ gT := gT_of (List.mem_append_left _ (by decide +kernel)) (by decide +kernel)
theorem kcj_133 : (.methodLink RX4 219 yX4_takeReason : Cond) ∈ gT := gT_of (List.mem_append_right _ (List.mem_of_getElem? (i := 356) (by decide +kernel))) (by decide +kernel)
theorem kcj_134 : (.instanceMethod yX4_takeReason : Cond) ∈ gT := gT_of (List.mem_append_right _ (List.mem_of_getElem? (i := 358) (by decide +kernel))) (by decide +kernel)
theorem kcj_135 : (.selects RX4 yX4_takeReason yX4_takeReason : Cond) ∈ gT := gT_of (List.mem_append_left _ (by decide +kernel)) (by decide +kernel)
theorem kcj_136 : (.methodLink RX4 223 yX4_firstOnStretch : Cond) ∈ gT := gT_of (List.mem_append_right _ (List.mem_of_getElem? (i := 360) (by decide +kernel))) (by decide +kernel)
theorem kcj_137 : (.instanceMethod yX4_firstOnStretch : Cond) ∈ gT := gT_of (List.mem_append_right _ (List.mem_of_getElem? (i := 362) (by decide +kernel))) (by decide +kernel)
theorem kcj_138 : (.selects RX4 yX4_firstOnStretch yX4_firstOnStretch : Cond) ∈ gT := gT_of (List.mem_append_left _ (by decide +kernel)) (by decide +kernel)
theorem kcj_139 : (.methodLink RX4 226 yX4_nearestByPlace : Cond) ∈ gT := gT_of (List.mem_append_right _ (List.mem_of_getElem? (i := 391) (by decide +kernel))) (by decide +kernel)
theorem kcj_140 : (.instanceMethod yX4_nearestByPlace : Cond) ∈ gT := gT_of (List.mem_append_right _ (List.mem_of_getElem? (i := 393) (by decide +kernel))) (by decide +kernel)
theorem kcj_141 : (.selects RX4 yX4_nearestByPlace yX4_nearestByPlace : Cond) ∈ gT := gT_of (List.mem_append_left _ (by decide +kernel)) (by decide +kernel)
theorem kcj_142 : (.methodLink RX4 229 yX4_greatestShare : Cond) ∈ gT := gT_of (List.mem_append_right _ (List.mem_of_getElem? (i := 413) (by decide +kernel))) (by decide +kernel)
theorem kcj_143 : (.instanceMethod yX4_greatestShare : Cond) ∈ gT := gT_of (List.mem_append_right _ (List.mem_of_getElem? (i := 415) (by decide +kernel))) (by decide +kernel)
theorem kcj_144 : (.selects RX4 yX4_greatestShare yX4_greatestShare : Cond) ∈ gT := gT_of (List.mem_append_left _ (by decide +kernel)) (by decide +kernel)
theorem kcj_145 : (.methodLink RX4 83 yX0_draft : Cond) ∈ gT := gT_of (List.mem_append_right _ (List.mem_of_getElem? (i := 328) (by decide +kernel))) (by decide +kernel)
theorem kcj_146 : (.instanceMethod yX0_draft : Cond) ∈ gT := gT_of (List.mem_append_right _ (List.mem_of_getElem? (i := 329) (by decide +kernel))) (by decide +kernel)
theorem kcj_147 : (.selects RX0 yX0_draft yX0_draft : Cond) ∈ gT := gT_of (List.mem_append_right _ (List.mem_of_getElem? (i := 330) (by decide +kernel))) (by decide +kernel)
theorem kcj_148 : (.methodLink RX4 87 yX4_seekReason : Cond) ∈ gT := gT_of (List.mem_append_right _ (List.mem_of_getElem? (i := 332) (by decide +kernel))) (by decide +kernel)
theorem kcj_149 : (.instanceMethod yX4_seekReason : Cond) ∈ gT := gT_of (List.mem_append_right _ (List.mem_of_getElem? (i := 334) (by decide +kernel))) (by decide +kernel)
theorem kcj_150 : (.selects RX4 yX4_seekReason yX4_seekReason : Cond) ∈ gT := gT_of (List.mem_append_left _ (by decide +kernel)) (by decide +kernel)
theorem kcj_151 : (.methodLink RX4 98 yX1_begin : Cond) ∈ gT := gT_of (List.mem_append_right _ (List.mem_of_getElem? (i := 417) (by decide +kernel))) (by decide +kernel)
theorem kcj_152 : (.instanceMethod yX1_begin : Cond) ∈ gT := gT_of (List.mem_append_right _ (List.mem_of_getElem? (i := 418) (by decide +kernel))) (by decide +kernel)
theorem kcj_153 : (.selects RX1 yX1_begin yX1_begin : Cond) ∈ gT := gT_of (List.mem_append_right _ (List.mem_of_getElem? (i := 419) (by decide +kernel))) (by decide +kernel)
theorem kcj_154 : (.methodLink RX4 76 yX4_needCallData : Cond) ∈ gT := gT_of (List.mem_append_right _ (List.mem_of_getElem? (i := 320) (by decide +kernel))) (by decide +kernel)
theorem kcj_155 : (.instanceMethod yX4_needCallData : Cond) ∈ gT := gT_of (List.mem_append_right _ (List.mem_of_getElem? (i := 322) (by decide +kernel))) (by decide +kernel)
theorem kcj_156 : (.selects RX4 yX4_needCallData yX4_needCallData : Cond) ∈ gT := gT_of (List.mem_append_left _ (by decide +kernel)) (by decide +kernel)
theorem kcj_157 : (.methodLink RX0 46 yX0_isUnder : Cond) ∈ gT := gT_of (List.mem_append_right _ (List.mem_of_getElem? (i := 466) (by decide +kernel))) (by decide +kernel)
theorem kcj_158 : (.instanceMethod yX0_isUnder : Cond) ∈ gT := gT_of (List.mem_append_right _ (List.mem_of_getElem? (i := 468) (by decide +kernel))) (by decide +kernel)
theorem kcj_159 : (.selects RX0 yX0_isUnder yX0_isUnder : Cond) ∈ gT := gT_of (List.mem_append_left _ (by decide +kernel)) (by decide +kernel)
theorem kcj_160 : (.methodLink RX4 108 yX4_needState : Cond) ∈ gT := gT_of (List.mem_append_right _ (List.mem_of_getElem? (i := 443) (by decide +kernel))) (by decide +kernel)
theorem kcj_161 : (.static yX4_needState : Cond) ∈ gT := gT_of (List.mem_append_right _ (List.mem_of_getElem? (i := 444) (by decide +kernel))) (by decide +kernel)
theorem kcj_162 : (.methodLink RX4 114 yX0_moveBranch : Cond) ∈ gT := gT_of (List.mem_append_right _ (List.mem_of_getElem? (i := 462) (by decide +kernel))) (by decide +kernel)
theorem kcj_163 : (.instanceMethod yX0_moveBranch : Cond) ∈ gT := gT_of (List.mem_append_right _ (List.mem_of_getElem? (i := 463) (by decide +kernel))) (by decide +kernel)
theorem kcj_164 : (.selects RX0 yX0_moveBranch yX0_moveBranch : Cond) ∈ gT := gT_of (List.mem_append_right _ (List.mem_of_getElem? (i := 464) (by decide +kernel))) (by decide +kernel)
theorem kcj_165 : (.methodLink RX4 127 yX0_moveAll : Cond) ∈ gT := gT_of (List.mem_append_right _ (List.mem_of_getElem? (i := 477) (by decide +kernel))) (by decide +kernel)
theorem kcj_166 : (.instanceMethod yX0_moveAll : Cond) ∈ gT := gT_of (List.mem_append_right _ (List.mem_of_getElem? (i := 478) (by decide +kernel))) (by decide +kernel)
theorem kcj_167 : (.selects RX0 yX0_moveAll yX0_moveAll : Cond) ∈ gT := gT_of (List.mem_append_right _ (List.mem_of_getElem? (i := 479) (by decide +kernel))) (by decide +kernel)
theorem kcj_168 : (.methodLink RX4 130 yX0_countIn : Cond) ∈ gT := gT_of (List.mem_append_right _ (List.mem_of_getElem? (i := 481) (by decide +kernel))) (by decide +kernel)
theorem kcj_169 : (.instanceMethod yX0_countIn : Cond) ∈ gT := gT_of (List.mem_append_right _ (List.mem_of_getElem? (i := 482) (by decide +kernel))) (by decide +kernel)
theorem kcj_170 : (.selects RX0 yX0_countIn yX0_countIn : Cond) ∈ gT := gT_of (List.mem_append_right _ (List.mem_of_getElem? (i := 483) (by decide +kernel))) (by decide +kernel)
theorem kcj_171 : (.methodLink RX4 151 yX4_needTwoCalls : Cond) ∈ gT := gT_of (List.mem_append_right _ (List.mem_of_getElem? (i := 513) (by decide +kernel))) (by decide +kernel)
theorem kcj_172 : (.instanceMethod yX4_needTwoCalls : Cond) ∈ gT := gT_of (List.mem_append_right _ (List.mem_of_getElem? (i := 515) (by decide +kernel))) (by decide +kernel)
theorem kcj_173 : (.selects RX4 yX4_needTwoCalls yX4_needTwoCalls : Cond) ∈ gT := gT_of (List.mem_append_left _ (by decide +kernel)) (by decide +kernel)
theorem kcj_174 : (.methodLink RX0 50 yX0_isHoax : Cond) ∈ gT := gT_of (List.mem_append_right _ (List.mem_of_getElem? (i := 558) (by decide +kernel))) (by decide +kernel)
theorem kcj_175 : (.methodLink RX0 54 yX0_weighCall : Cond) ∈ gT := gT_of (List.mem_append_right _ (List.mem_of_getElem? (i := 559) (by decide +kernel))) (by decide +kernel)
theorem kcj_176 : (.instanceMethod yX0_weighCall : Cond) ∈ gT := gT_of (List.mem_append_right _ (List.mem_of_getElem? (i := 561) (by decide +kernel))) (by decide +kernel)
theorem kcj_177 : (.selects RX0 yX0_weighCall yX0_weighCall : Cond) ∈ gT := gT_of (List.mem_append_left _ (by decide +kernel)) (by decide +kernel)
theorem kcj_178 : (.methodLink RX4 171 yX0_weighEvent : Cond) ∈ gT := gT_of (List.mem_append_right _ (List.mem_of_getElem? (i := 554) (by decide +kernel))) (by decide +kernel)
theorem kcj_179 : (.instanceMethod yX0_weighEvent : Cond) ∈ gT := gT_of (List.mem_append_right _ (List.mem_of_getElem? (i := 555) (by decide +kernel))) (by decide +kernel)
theorem kcj_180 : (.selects RX0 yX0_weighEvent yX0_weighEvent : Cond) ∈ gT := gT_of (List.mem_append_right _ (List.mem_of_getElem? (i := 556) (by decide +kernel))) (by decide +kernel)
theorem kcj_181 : (.methodLink RX4 174 yX0_pointOf : Cond) ∈ gT := gT_of (List.mem_append_right _ (List.mem_of_getElem? (i := 563) (by decide +kernel))) (by decide +kernel)
theorem kcj_182 : (.instanceMethod yX0_pointOf : Cond) ∈ gT := gT_of (List.mem_append_right _ (List.mem_of_getElem? (i := 564) (by decide +kernel))) (by decide +kernel)
theorem kcj_183 : (.selects RX0 yX0_pointOf yX0_pointOf : Cond) ∈ gT := gT_of (List.mem_append_right _ (List.mem_of_getElem? (i := 565) (by decide +kernel))) (by decide +kernel)
theorem kcj_184 : (.methodLink RX4 177 yX0_latestTimeOf : Cond) ∈ gT := gT_of (List.mem_append_right _ (List.mem_of_getElem? (i := 567) (by decide +kernel))) (by decide +kernel)
theorem kcj_185 : (.instanceMethod yX0_latestTimeOf : Cond) ∈ gT := gT_of (List.mem_append_right _ (List.mem_of_getElem? (i := 568) (by decide +kernel))) (by decide +kernel)
theorem kcj_186 : (.selects RX0 yX0_latestTimeOf yX0_latestTimeOf : Cond) ∈ gT := gT_of (List.mem_append_right _ (List.mem_of_getElem? (i := 569) (by decide +kernel))) (by decide +kernel)
theorem kcj_187 : (.methodLink RX4 180 yX0_memberOf : Cond) ∈ gT := gT_of (List.mem_append_right _ (List.mem_of_getElem? (i := 578) (by decide +kernel))) (by decide +kernel)
theorem kcj_188 : (.instanceMethod yX0_memberOf : Cond) ∈ gT := gT_of (List.mem_append_right _ (List.mem_of_getElem? (i := 579) (by decide +kernel))) (by decide +kernel)
theorem kcj_189 : (.selects RX0 yX0_memberOf yX0_memberOf : Cond) ∈ gT := gT_of (List.mem_append_right _ (List.mem_of_getElem? (i := 580) (by decide +kernel))) (by decide +kernel)
theorem kcj_190 : (.methodLink RX4 183 yX1_countOpen : Cond) ∈ gT := gT_of (List.mem_append_right _ (List.mem_of_getElem? (i := 589) (by decide +kernel))) (by decide +kernel)
theorem kcj_191 : (.instanceMethod yX1_countOpen : Cond) ∈ gT := gT_of (List.mem_append_right _ (List.mem_of_getElem? (i := 590) (by decide +kernel))) (by decide +kernel)
theorem kcj_192 : (.selects RX1 yX1_countOpen yX1_countOpen : Cond) ∈ gT := gT_of (List.mem_append_right _ (List.mem_of_getElem? (i := 591) (by decide +kernel))) (by decide +kernel)
theorem kcj_193 : (.methodLink RX4 187 yX0_countHoaxes : Cond) ∈ gT := gT_of (List.mem_append_right _ (List.mem_of_getElem? (i := 593) (by decide +kernel))) (by decide +kernel)
theorem kcj_194 : (.instanceMethod yX0_countHoaxes : Cond) ∈ gT := gT_of (List.mem_append_right _ (List.mem_of_getElem? (i := 594) (by decide +kernel))) (by decide +kernel)
theorem kcj_195 : (.selects RX0 yX0_countHoaxes yX0_countHoaxes : Cond) ∈ gT := gT_of (List.mem_append_right _ (List.mem_of_getElem? (i := 595) (by decide +kernel))) (by decide +kernel)
theorem kmd_0 : (.fieldLink RX6 70 "CallJoinModel" "thrown" "I" : Cond) ∈ gT := gT_of (List.mem_append_right _ (List.mem_of_getElem? (i := 603) (by decide +kernel))) (by decide +kernel)
theorem kmd_1 : (.fieldLink RX6 78 "CallJoinModel" "calls" "I" : Cond) ∈ gT := gT_of (List.mem_append_right _ (List.mem_of_getElem? (i := 611) (by decide +kernel))) (by decide +kernel)
theorem kmd_2 : (.fieldLink RX6 81 "CallJoinModel" "events" "I" : Cond) ∈ gT := gT_of (List.mem_append_right _ (List.mem_of_getElem? (i := 612) (by decide +kernel))) (by decide +kernel)
theorem kmd_3 : (.constant RX6 84 (99999999 : Int32) : Cond) ∈ gT := gT_of (List.mem_append_right _ (List.mem_of_getElem? (i := 709) (by decide +kernel))) (by decide +kernel)
theorem kmd_4 : (.fieldLink RX6 7 "CallJoinModel" "distance" "[I" : Cond) ∈ gT := gT_of (List.mem_append_right _ (List.mem_of_getElem? (i := 604) (by decide +kernel))) (by decide +kernel)
theorem kmd_5 : (.fieldLink RX6 13 "CallJoinModel" "span" "[I" : Cond) ∈ gT := gT_of (List.mem_append_right _ (List.mem_of_getElem? (i := 605) (by decide +kernel))) (by decide +kernel)
theorem kmd_6 : (.fieldLink RX6 16 "CallJoinModel" "over" "[I" : Cond) ∈ gT := gT_of (List.mem_append_right _ (List.mem_of_getElem? (i := 606) (by decide +kernel))) (by decide +kernel)
theorem kmd_7 : (.fieldLink RX6 19 "CallJoinModel" "under" "[I" : Cond) ∈ gT := gT_of (List.mem_append_right _ (List.mem_of_getElem? (i := 607) (by decide +kernel))) (by decide +kernel)
theorem kmd_8 : (.constant RX6 85 (100000 : Int32) : Cond) ∈ gT := gT_of (List.mem_append_right _ (List.mem_of_getElem? (i := 687) (by decide +kernel))) (by decide +kernel)
theorem kmd_9 : (.fieldLink RX6 22 "CallJoinModel" "weights" "[I" : Cond) ∈ gT := gT_of (List.mem_append_right _ (List.mem_of_getElem? (i := 608) (by decide +kernel))) (by decide +kernel)
theorem kmd_10 : (.fieldLink RX6 25 "CallJoinModel" "pointCount" "[I" : Cond) ∈ gT := gT_of (List.mem_append_right _ (List.mem_of_getElem? (i := 609) (by decide +kernel))) (by decide +kernel)
theorem kmd_11 : (.fieldLink RX6 28 "CallJoinModel" "points" "[I" : Cond) ∈ gT := gT_of (List.mem_append_right _ (List.mem_of_getElem? (i := 610) (by decide +kernel))) (by decide +kernel)
theorem kmd_12 : (.fieldLink RX6 37 "CallJoinModel" "pointOf" "[I" : Cond) ∈ gT := gT_of (List.mem_append_right _ (List.mem_of_getElem? (i := 615) (by decide +kernel))) (by decide +kernel)
theorem kmd_13 : (.constantLong RX6 111 (4 : Int64) : Cond) ∈ gT := gT_of (List.mem_append_right _ (List.mem_of_getElem? (i := 772) (by decide +kernel))) (by decide +kernel)
theorem kmd_14 : (.fieldLink RX6 40 "CallJoinModel" "wordsOf" "[I" : Cond) ∈ gT := gT_of (List.mem_append_right _ (List.mem_of_getElem? (i := 616) (by decide +kernel))) (by decide +kernel)
theorem kmd_15 : (.fieldLink RX6 43 "CallJoinModel" "timeOf" "[I" : Cond) ∈ gT := gT_of (List.mem_append_right _ (List.mem_of_getElem? (i := 617) (by decide +kernel))) (by decide +kernel)
theorem kmd_16 : (.fieldLink RX6 58 "CallJoinModel" "stateOf" "[I" : Cond) ∈ gT := gT_of (List.mem_append_right _ (List.mem_of_getElem? (i := 622) (by decide +kernel))) (by decide +kernel)
theorem kmd_17 : (.fieldLink RX6 46 "CallJoinModel" "eventOf" "[I" : Cond) ∈ gT := gT_of (List.mem_append_right _ (List.mem_of_getElem? (i := 618) (by decide +kernel))) (by decide +kernel)
theorem kmd_18 : (.fieldLink RX6 52 "CallJoinModel" "marksOf" "[I" : Cond) ∈ gT := gT_of (List.mem_append_right _ (List.mem_of_getElem? (i := 620) (by decide +kernel))) (by decide +kernel)
theorem kmd_19 : (.fieldLink RX6 49 "CallJoinModel" "reasonOf" "[I" : Cond) ∈ gT := gT_of (List.mem_append_right _ (List.mem_of_getElem? (i := 619) (by decide +kernel))) (by decide +kernel)
theorem kmd_20 : (.constantLong RX6 113 (2500 : Int64) : Cond) ∈ gT := gT_of (List.mem_append_right _ (List.mem_of_getElem? (i := 752) (by decide +kernel))) (by decide +kernel)
theorem kmd_21 : (.fieldLink RX6 64 "CallJoinModel" "watchedFrom" "[I" : Cond) ∈ gT := gT_of (List.mem_append_right _ (List.mem_of_getElem? (i := 624) (by decide +kernel))) (by decide +kernel)
theorem kmd_22 : (.fieldLink RX6 67 "CallJoinModel" "watchedTo" "[I" : Cond) ∈ gT := gT_of (List.mem_append_right _ (List.mem_of_getElem? (i := 625) (by decide +kernel))) (by decide +kernel)
theorem kmd_23 : (.fieldLink RX6 61 "CallJoinModel" "watched" "[I" : Cond) ∈ gT := gT_of (List.mem_append_right _ (List.mem_of_getElem? (i := 623) (by decide +kernel))) (by decide +kernel)
theorem kmd_24 : (.fieldLink RX6 31 "CallJoinModel" "lineOf" "[I" : Cond) ∈ gT := gT_of (List.mem_append_right _ (List.mem_of_getElem? (i := 613) (by decide +kernel))) (by decide +kernel)
theorem kmd_25 : (.fieldLink RX6 34 "CallJoinModel" "kindOf" "[I" : Cond) ∈ gT := gT_of (List.mem_append_right _ (List.mem_of_getElem? (i := 614) (by decide +kernel))) (by decide +kernel)
theorem kmd_26 : (.fieldLink RX6 139 "CallJoinModel" "how" "I" : Cond) ∈ gT := gT_of (List.mem_append_right _ (List.mem_of_getElem? (i := 626) (by decide +kernel))) (by decide +kernel)
theorem kmd_27 : (.fieldLink RX6 55 "CallJoinModel" "howOf" "[I" : Cond) ∈ gT := gT_of (List.mem_append_right _ (List.mem_of_getElem? (i := 621) (by decide +kernel))) (by decide +kernel)
theorem kmd_28 : (.methodLink RX6 74 yX6_in : Cond) ∈ gT := gT_of (List.mem_append_right _ (List.mem_of_getElem? (i := 684) (by decide +kernel))) (by decide +kernel)
theorem kmd_29 : (.static yX6_in : Cond) ∈ gT := gT_of (List.mem_append_right _ (List.mem_of_getElem? (i := 685) (by decide +kernel))) (by decide +kernel)
theorem kmd_30 : (.initialized RX6 : Cond) ∈ gT := gT_of (List.mem_append_right _ (List.mem_of_getElem? (i := 7) (by decide +kernel))) (by decide +kernel)
theorem kmd_31 : (.methodLink RX6 86 yX6_isKind : Cond) ∈ gT := gT_of (List.mem_append_right _ (List.mem_of_getElem? (i := 688) (by decide +kernel))) (by decide +kernel)
theorem kmd_32 : (.static yX6_isKind : Cond) ∈ gT := gT_of (List.mem_append_right _ (List.mem_of_getElem? (i := 689) (by decide +kernel))) (by decide +kernel)
theorem kmd_33 : (.methodLink RX6 90 yX6_throwing : Cond) ∈ gT := gT_of (List.mem_append_right _ (List.mem_of_getElem? (i := 691) (by decide +kernel))) (by decide +kernel)
theorem kmd_34 : (.instanceMethod yX6_throwing : Cond) ∈ gT := gT_of (List.mem_append_right _ (List.mem_of_getElem? (i := 693) (by decide +kernel))) (by decide +kernel)
theorem kmd_35 : (.selects RX6 yX6_throwing yX6_throwing : Cond) ∈ gT := gT_of (List.mem_append_left _ (by decide +kernel)) (by decide +kernel)
theorem kmd_36 : (.methodLink RX6 97 yX6_isPoint : Cond) ∈ gT := gT_of (List.mem_append_right _ (List.mem_of_getElem? (i := 706) (by decide +kernel))) (by decide +kernel)
theorem kmd_37 : (.static yX6_isPoint : Cond) ∈ gT := gT_of (List.mem_append_right _ (List.mem_of_getElem? (i := 707) (by decide +kernel))) (by decide +kernel)
theorem kmd_38 : (.methodLink RX6 94 yX6_isRoad : Cond) ∈ gT := gT_of (List.mem_append_right _ (List.mem_of_getElem? (i := 703) (by decide +kernel))) (by decide +kernel)
theorem kmd_39 : (.static yX6_isRoad : Cond) ∈ gT := gT_of (List.mem_append_right _ (List.mem_of_getElem? (i := 704) (by decide +kernel))) (by decide +kernel)
theorem kmd_40 : (.methodLink RX6 100 yX6_sum : Cond) ∈ gT := gT_of (List.mem_append_right _ (List.mem_of_getElem? (i := 764) (by decide +kernel))) (by decide +kernel)
theorem kmd_41 : (.instanceMethod yX6_sum : Cond) ∈ gT := gT_of (List.mem_append_right _ (List.mem_of_getElem? (i := 766) (by decide +kernel))) (by decide +kernel)
theorem kmd_42 : (.selects RX6 yX6_sum yX6_sum : Cond) ∈ gT := gT_of (List.mem_append_left _ (by decide +kernel)) (by decide +kernel)
theorem kmd_43 : (.methodLink RX6 104 yX6_squareOf : Cond) ∈ gT := gT_of (List.mem_append_right _ (List.mem_of_getElem? (i := 753) (by decide +kernel))) (by decide +kernel)
theorem kmd_44 : (.static yX6_squareOf : Cond) ∈ gT := gT_of (List.mem_append_right _ (List.mem_of_getElem? (i := 754) (by decide +kernel))) (by decide +kernel)
theorem kmd_45 : (.methodLink RX6 108 yX6_isEnough : Cond) ∈ gT := gT_of (List.mem_append_right _ (List.mem_of_getElem? (i := 768) (by decide +kernel))) (by decide +kernel)
theorem kmd_46 : (.instanceMethod yX6_isEnough : Cond) ∈ gT := gT_of (List.mem_append_right _ (List.mem_of_getElem? (i := 770) (by decide +kernel))) (by decide +kernel)
theorem kmd_47 : (.selects RX6 yX6_isEnough yX6_isEnough : Cond) ∈ gT := gT_of (List.mem_append_left _ (by decide +kernel)) (by decide +kernel)
theorem kmd_48 : (.methodLink RX6 115 yX6_isBeside : Cond) ∈ gT := gT_of (List.mem_append_right _ (List.mem_of_getElem? (i := 749) (by decide +kernel))) (by decide +kernel)
theorem kmd_49 : (.static yX6_isBeside : Cond) ∈ gT := gT_of (List.mem_append_right _ (List.mem_of_getElem? (i := 750) (by decide +kernel))) (by decide +kernel)
theorem kmd_50 : (.methodLink RX6 118 yX6_isOpen : Cond) ∈ gT := gT_of (List.mem_append_right _ (List.mem_of_getElem? (i := 729) (by decide +kernel))) (by decide +kernel)
theorem kmd_51 : (.instanceMethod yX6_isOpen : Cond) ∈ gT := gT_of (List.mem_append_right _ (List.mem_of_getElem? (i := 731) (by decide +kernel))) (by decide +kernel)
theorem kmd_52 : (.selects RX6 yX6_isOpen yX6_isOpen : Cond) ∈ gT := gT_of (List.mem_append_left _ (by decide +kernel)) (by decide +kernel)
theorem kmd_53 : (.methodLink RX6 121 yX6_isHoax : Cond) ∈ gT := gT_of (List.mem_append_right _ (List.mem_of_getElem? (i := 733) (by decide +kernel))) (by decide +kernel)
theorem kmd_54 : (.instanceMethod yX6_isHoax : Cond) ∈ gT := gT_of (List.mem_append_right _ (List.mem_of_getElem? (i := 735) (by decide +kernel))) (by decide +kernel)
theorem kmd_55 : (.selects RX6 yX6_isHoax yX6_isHoax : Cond) ∈ gT := gT_of (List.mem_append_left _ (by decide +kernel)) (by decide +kernel)
theorem kmd_56 : (.methodLink RX6 128 yX6_isOn : Cond) ∈ gT := gT_of (List.mem_append_right _ (List.mem_of_getElem? (i := 745) (by decide +kernel))) (by decide +kernel)
theorem kmd_57 : (.instanceMethod yX6_isOn : Cond) ∈ gT := gT_of (List.mem_append_right _ (List.mem_of_getElem? (i := 747) (by decide +kernel))) (by decide +kernel)
theorem kmd_58 : (.selects RX6 yX6_isOn yX6_isOn : Cond) ∈ gT := gT_of (List.mem_append_left _ (by decide +kernel)) (by decide +kernel)
theorem kmd_59 : (.methodLink RX6 124 yX6_firstOf : Cond) ∈ gT := gT_of (List.mem_append_right _ (List.mem_of_getElem? (i := 741) (by decide +kernel))) (by decide +kernel)
theorem kmd_60 : (.instanceMethod yX6_firstOf : Cond) ∈ gT := gT_of (List.mem_append_right _ (List.mem_of_getElem? (i := 743) (by decide +kernel))) (by decide +kernel)
theorem kmd_61 : (.selects RX6 yX6_firstOf yX6_firstOf : Cond) ∈ gT := gT_of (List.mem_append_left _ (by decide +kernel)) (by decide +kernel)
theorem kmd_62 : (.methodLink RX6 135 yX6_isBetter : Cond) ∈ gT := gT_of (List.mem_append_right _ (List.mem_of_getElem? (i := 773) (by decide +kernel))) (by decide +kernel)
theorem kmd_63 : (.instanceMethod yX6_isBetter : Cond) ∈ gT := gT_of (List.mem_append_right _ (List.mem_of_getElem? (i := 775) (by decide +kernel))) (by decide +kernel)
theorem kmd_64 : (.selects RX6 yX6_isBetter yX6_isBetter : Cond) ∈ gT := gT_of (List.mem_append_left _ (by decide +kernel)) (by decide +kernel)
theorem kmd_65 : (.methodLink RX6 131 yX6_meets : Cond) ∈ gT := gT_of (List.mem_append_right _ (List.mem_of_getElem? (i := 760) (by decide +kernel))) (by decide +kernel)
theorem kmd_66 : (.instanceMethod yX6_meets : Cond) ∈ gT := gT_of (List.mem_append_right _ (List.mem_of_getElem? (i := 762) (by decide +kernel))) (by decide +kernel)
theorem kmd_67 : (.selects RX6 yX6_meets yX6_meets : Cond) ∈ gT := gT_of (List.mem_append_left _ (by decide +kernel)) (by decide +kernel)
theorem kmd_68 : (.methodLink RX6 142 yX6_again : Cond) ∈ gT := gT_of (List.mem_append_right _ (List.mem_of_getElem? (i := 725) (by decide +kernel))) (by decide +kernel)
theorem kmd_69 : (.instanceMethod yX6_again : Cond) ∈ gT := gT_of (List.mem_append_right _ (List.mem_of_getElem? (i := 727) (by decide +kernel))) (by decide +kernel)
theorem kmd_70 : (.selects RX6 yX6_again yX6_again : Cond) ∈ gT := gT_of (List.mem_append_left _ (by decide +kernel)) (by decide +kernel)
theorem kmd_71 : (.methodLink RX6 146 yX6_onStretch : Cond) ∈ gT := gT_of (List.mem_append_right _ (List.mem_of_getElem? (i := 737) (by decide +kernel))) (by decide +kernel)
theorem kmd_72 : (.instanceMethod yX6_onStretch : Cond) ∈ gT := gT_of (List.mem_append_right _ (List.mem_of_getElem? (i := 739) (by decide +kernel))) (by decide +kernel)
theorem kmd_73 : (.selects RX6 yX6_onStretch yX6_onStretch : Cond) ∈ gT := gT_of (List.mem_append_left _ (by decide +kernel)) (by decide +kernel)
theorem kmd_74 : (.methodLink RX6 149 yX6_agreeing : Cond) ∈ gT := gT_of (List.mem_append_right _ (List.mem_of_getElem? (i := 756) (by decide +kernel))) (by decide +kernel)
theorem kmd_75 : (.instanceMethod yX6_agreeing : Cond) ∈ gT := gT_of (List.mem_append_right _ (List.mem_of_getElem? (i := 758) (by decide +kernel))) (by decide +kernel)
theorem kmd_76 : (.selects RX6 yX6_agreeing yX6_agreeing : Cond) ∈ gT := gT_of (List.mem_append_left _ (by decide +kernel)) (by decide +kernel)
theorem kmd_77 : (.methodLink RX6 156 yX6_isRange : Cond) ∈ gT := gT_of (List.mem_append_right _ (List.mem_of_getElem? (i := 717) (by decide +kernel))) (by decide +kernel)
theorem kmd_78 : (.instanceMethod yX6_isRange : Cond) ∈ gT := gT_of (List.mem_append_right _ (List.mem_of_getElem? (i := 719) (by decide +kernel))) (by decide +kernel)
theorem kmd_79 : (.selects RX6 yX6_isRange yX6_isRange : Cond) ∈ gT := gT_of (List.mem_append_left _ (by decide +kernel)) (by decide +kernel)
theorem kmd_80 : (.methodLink RX6 159 yX6_reason : Cond) ∈ gT := gT_of (List.mem_append_right _ (List.mem_of_getElem? (i := 721) (by decide +kernel))) (by decide +kernel)
theorem kmd_81 : (.instanceMethod yX6_reason : Cond) ∈ gT := gT_of (List.mem_append_right _ (List.mem_of_getElem? (i := 723) (by decide +kernel))) (by decide +kernel)
theorem kmd_82 : (.selects RX6 yX6_reason yX6_reason : Cond) ∈ gT := gT_of (List.mem_append_left _ (by decide +kernel)) (by decide +kernel)
theorem kmd_83 : (.methodLink RX6 163 yX6_newEvent : Cond) ∈ gT := gT_of (List.mem_append_right _ (List.mem_of_getElem? (i := 777) (by decide +kernel))) (by decide +kernel)
theorem kmd_84 : (.instanceMethod yX6_newEvent : Cond) ∈ gT := gT_of (List.mem_append_right _ (List.mem_of_getElem? (i := 779) (by decide +kernel))) (by decide +kernel)
theorem kmd_85 : (.selects RX6 yX6_newEvent yX6_newEvent : Cond) ∈ gT := gT_of (List.mem_append_left _ (by decide +kernel)) (by decide +kernel)
theorem kmd_86 : (.methodLink RX6 152 yX6_isKnown : Cond) ∈ gT := gT_of (List.mem_append_right _ (List.mem_of_getElem? (i := 714) (by decide +kernel))) (by decide +kernel)
theorem kmd_87 : (.static yX6_isKnown : Cond) ∈ gT := gT_of (List.mem_append_right _ (List.mem_of_getElem? (i := 715) (by decide +kernel))) (by decide +kernel)
theorem kmd_88 : (.methodLink RX6 167 yX6_isCall : Cond) ∈ gT := gT_of (List.mem_append_right _ (List.mem_of_getElem? (i := 789) (by decide +kernel))) (by decide +kernel)
theorem kmd_89 : (.instanceMethod yX6_isCall : Cond) ∈ gT := gT_of (List.mem_append_right _ (List.mem_of_getElem? (i := 791) (by decide +kernel))) (by decide +kernel)
theorem kmd_90 : (.selects RX6 yX6_isCall yX6_isCall : Cond) ∈ gT := gT_of (List.mem_append_left _ (by decide +kernel)) (by decide +kernel)
theorem kmd_91 : (.methodLink RX6 173 yX6_size : Cond) ∈ gT := gT_of (List.mem_append_right _ (List.mem_of_getElem? (i := 805) (by decide +kernel))) (by decide +kernel)
theorem kmd_92 : (.instanceMethod yX6_size : Cond) ∈ gT := gT_of (List.mem_append_right _ (List.mem_of_getElem? (i := 807) (by decide +kernel))) (by decide +kernel)
theorem kmd_93 : (.selects RX6 yX6_size yX6_size : Cond) ∈ gT := gT_of (List.mem_append_left _ (by decide +kernel)) (by decide +kernel)
theorem kmd_94 : (.methodLink RX6 170 yX6_isEvent : Cond) ∈ gT := gT_of (List.mem_append_right _ (List.mem_of_getElem? (i := 801) (by decide +kernel))) (by decide +kernel)
theorem kmd_95 : (.instanceMethod yX6_isEvent : Cond) ∈ gT := gT_of (List.mem_append_right _ (List.mem_of_getElem? (i := 803) (by decide +kernel))) (by decide +kernel)
theorem kmd_96 : (.selects RX6 yX6_isEvent yX6_isEvent : Cond) ∈ gT := gT_of (List.mem_append_left _ (by decide +kernel)) (by decide +kernel)
theorem kmd_97 : (.methodLink RX6 176 yX6_weightOf : Cond) ∈ gT := gT_of (List.mem_append_right _ (List.mem_of_getElem? (i := 833) (by decide +kernel))) (by decide +kernel)
theorem kmd_98 : (.instanceMethod yX6_weightOf : Cond) ∈ gT := gT_of (List.mem_append_right _ (List.mem_of_getElem? (i := 835) (by decide +kernel))) (by decide +kernel)
theorem kmd_99 : (.selects RX6 yX6_weightOf yX6_weightOf : Cond) ∈ gT := gT_of (List.mem_append_left _ (by decide +kernel)) (by decide +kernel)
theorem kmd_100 : (.methodLink RX6 179 yX6_placeOf : Cond) ∈ gT := gT_of (List.mem_append_right _ (List.mem_of_getElem? (i := 837) (by decide +kernel))) (by decide +kernel)
theorem kmd_101 : (.instanceMethod yX6_placeOf : Cond) ∈ gT := gT_of (List.mem_append_right _ (List.mem_of_getElem? (i := 839) (by decide +kernel))) (by decide +kernel)
theorem kmd_102 : (.selects RX6 yX6_placeOf yX6_placeOf : Cond) ∈ gT := gT_of (List.mem_append_left _ (by decide +kernel)) (by decide +kernel)
theorem kmd_103 : (.methodLink RX6 182 yX6_latestOf : Cond) ∈ gT := gT_of (List.mem_append_right _ (List.mem_of_getElem? (i := 841) (by decide +kernel))) (by decide +kernel)
theorem kmd_104 : (.instanceMethod yX6_latestOf : Cond) ∈ gT := gT_of (List.mem_append_right _ (List.mem_of_getElem? (i := 843) (by decide +kernel))) (by decide +kernel)
theorem kmd_105 : (.selects RX6 yX6_latestOf yX6_latestOf : Cond) ∈ gT := gT_of (List.mem_append_left _ (by decide +kernel)) (by decide +kernel)
end
