section
def lw_okq (q : MethodName × Nat) : Prop := (q.1.cls ≠ "java/lang/invoke/MethodHandle" ∧ q.1.cls ≠ "java/lang/invoke/VarHandle") ∧ Cond.instantiable q.1.cls q.2 ∈ tables_1 ∧ Cond.privateMethod q.1 ∈ tables_1 ∧ Cond.instanceMethod q.1 ∈ tables_1
theorem lw_p0 : lw_okq (⟨"java/lang/Throwable", "fillInStackTrace", "(I)Ljava/lang/Throwable;"⟩, 6) := ⟨⟨by decide +kernel, by decide +kernel⟩, List.mem_of_getElem? (i := 225) (by decide +kernel), List.mem_of_getElem? (i := 223) (by decide +kernel), List.mem_of_getElem? (i := 224) (by decide +kernel)⟩
theorem lw_p1 : lw_okq (⟨"CallJoin", "needCallData", "(IIIII)V"⟩, 4) := ⟨⟨by decide +kernel, by decide +kernel⟩, List.mem_of_getElem? (i := 18) (by decide +kernel), List.mem_of_getElem? (i := 321) (by decide +kernel), List.mem_of_getElem? (i := 322) (by decide +kernel)⟩
theorem lw_p2 : lw_okq (⟨"CallJoin", "seekReason", "(I)V"⟩, 4) := ⟨⟨by decide +kernel, by decide +kernel⟩, List.mem_of_getElem? (i := 18) (by decide +kernel), List.mem_of_getElem? (i := 333) (by decide +kernel), List.mem_of_getElem? (i := 334) (by decide +kernel)⟩
theorem lw_p3 : lw_okq (⟨"CallJoin", "latestOfLine", "(I)I"⟩, 4) := ⟨⟨by decide +kernel, by decide +kernel⟩, List.mem_of_getElem? (i := 18) (by decide +kernel), List.mem_of_getElem? (i := 337) (by decide +kernel), List.mem_of_getElem? (i := 338) (by decide +kernel)⟩
theorem lw_p4 : lw_okq (⟨"CallJoin", "canBeReason", "(I)Z"⟩, 4) := ⟨⟨by decide +kernel, by decide +kernel⟩, List.mem_of_getElem? (i := 18) (by decide +kernel), List.mem_of_getElem? (i := 341) (by decide +kernel), List.mem_of_getElem? (i := 342) (by decide +kernel)⟩
theorem lw_p5 : lw_okq (⟨"CallJoin", "isInOpenEvent", "(I)Z"⟩, 4) := ⟨⟨by decide +kernel, by decide +kernel⟩, List.mem_of_getElem? (i := 18) (by decide +kernel), List.mem_of_getElem? (i := 349) (by decide +kernel), List.mem_of_getElem? (i := 350) (by decide +kernel)⟩
theorem lw_p6 : lw_okq (⟨"CallJoin", "isWithinSpan", "(II)Z"⟩, 4) := ⟨⟨by decide +kernel, by decide +kernel⟩, List.mem_of_getElem? (i := 18) (by decide +kernel), List.mem_of_getElem? (i := 353) (by decide +kernel), List.mem_of_getElem? (i := 354) (by decide +kernel)⟩
theorem lw_p7 : lw_okq (⟨"CallJoin", "takeReason", "(III)Z"⟩, 4) := ⟨⟨by decide +kernel, by decide +kernel⟩, List.mem_of_getElem? (i := 18) (by decide +kernel), List.mem_of_getElem? (i := 357) (by decide +kernel), List.mem_of_getElem? (i := 358) (by decide +kernel)⟩
theorem lw_p8 : lw_okq (⟨"CallJoin", "firstOnStretch", "(I)I"⟩, 4) := ⟨⟨by decide +kernel, by decide +kernel⟩, List.mem_of_getElem? (i := 18) (by decide +kernel), List.mem_of_getElem? (i := 361) (by decide +kernel), List.mem_of_getElem? (i := 362) (by decide +kernel)⟩
theorem lw_p9 : lw_okq (⟨"CallJoin", "isOnStretch", "(II)Z"⟩, 4) := ⟨⟨by decide +kernel, by decide +kernel⟩, List.mem_of_getElem? (i := 18) (by decide +kernel), List.mem_of_getElem? (i := 369) (by decide +kernel), List.mem_of_getElem? (i := 370) (by decide +kernel)⟩
theorem lw_p10 : lw_okq (⟨"CallJoin", "nearestByPlace", "(I)I"⟩, 4) := ⟨⟨by decide +kernel, by decide +kernel⟩, List.mem_of_getElem? (i := 18) (by decide +kernel), List.mem_of_getElem? (i := 392) (by decide +kernel), List.mem_of_getElem? (i := 393) (by decide +kernel)⟩
theorem lw_p11 : lw_okq (⟨"CallJoin", "isCandidate", "(II)Z"⟩, 4) := ⟨⟨by decide +kernel, by decide +kernel⟩, List.mem_of_getElem? (i := 18) (by decide +kernel), List.mem_of_getElem? (i := 396) (by decide +kernel), List.mem_of_getElem? (i := 397) (by decide +kernel)⟩
theorem lw_p12 : lw_okq (⟨"CallJoin", "agreement", "(II)I"⟩, 4) := ⟨⟨by decide +kernel, by decide +kernel⟩, List.mem_of_getElem? (i := 18) (by decide +kernel), List.mem_of_getElem? (i := 400) (by decide +kernel), List.mem_of_getElem? (i := 401) (by decide +kernel)⟩
theorem lw_p13 : lw_okq (⟨"CallJoin", "greatestShare", "(I)I"⟩, 4) := ⟨⟨by decide +kernel, by decide +kernel⟩, List.mem_of_getElem? (i := 18) (by decide +kernel), List.mem_of_getElem? (i := 414) (by decide +kernel), List.mem_of_getElem? (i := 415) (by decide +kernel)⟩
theorem lw_p14 : lw_okq (⟨"CallJoin$Calls", "isUnder", "(II)Z"⟩, 11) := ⟨⟨by decide +kernel, by decide +kernel⟩, List.mem_of_getElem? (i := 71) (by decide +kernel), List.mem_of_getElem? (i := 467) (by decide +kernel), List.mem_of_getElem? (i := 468) (by decide +kernel)⟩
theorem lw_p15 : lw_okq (⟨"CallJoin", "needTwoCalls", "(II)V"⟩, 4) := ⟨⟨by decide +kernel, by decide +kernel⟩, List.mem_of_getElem? (i := 18) (by decide +kernel), List.mem_of_getElem? (i := 514) (by decide +kernel), List.mem_of_getElem? (i := 515) (by decide +kernel)⟩
def lw_privs_1 : List (MethodName × Nat) := [(⟨"java/lang/Throwable", "fillInStackTrace", "(I)Ljava/lang/Throwable;"⟩, 6), (⟨"CallJoin", "needCallData", "(IIIII)V"⟩, 4), (⟨"CallJoin", "seekReason", "(I)V"⟩, 4), (⟨"CallJoin", "latestOfLine", "(I)I"⟩, 4), (⟨"CallJoin", "canBeReason", "(I)Z"⟩, 4), (⟨"CallJoin", "isInOpenEvent", "(I)Z"⟩, 4), (⟨"CallJoin", "isWithinSpan", "(II)Z"⟩, 4), (⟨"CallJoin", "takeReason", "(III)Z"⟩, 4), (⟨"CallJoin", "firstOnStretch", "(I)I"⟩, 4), (⟨"CallJoin", "isOnStretch", "(II)Z"⟩, 4), (⟨"CallJoin", "nearestByPlace", "(I)I"⟩, 4), (⟨"CallJoin", "isCandidate", "(II)Z"⟩, 4), (⟨"CallJoin", "agreement", "(II)I"⟩, 4), (⟨"CallJoin", "greatestShare", "(I)I"⟩, 4), (⟨"CallJoin$Calls", "isUnder", "(II)Z"⟩, 11), (⟨"CallJoin", "needTwoCalls", "(II)V"⟩, 4)]
theorem lw_r1 : ∀ q ∈ lw_privs_1, lw_okq q := List.forall_mem_cons.mpr ⟨lw_p0, List.forall_mem_cons.mpr ⟨lw_p1, List.forall_mem_cons.mpr ⟨lw_p2, List.forall_mem_cons.mpr ⟨lw_p3, List.forall_mem_cons.mpr ⟨lw_p4, List.forall_mem_cons.mpr ⟨lw_p5, List.forall_mem_cons.mpr ⟨lw_p6, List.forall_mem_cons.mpr ⟨lw_p7, List.forall_mem_cons.mpr ⟨lw_p8, List.forall_mem_cons.mpr ⟨lw_p9, List.forall_mem_cons.mpr ⟨lw_p10, List.forall_mem_cons.mpr ⟨lw_p11, List.forall_mem_cons.mpr ⟨lw_p12, List.forall_mem_cons.mpr ⟨lw_p13, List.forall_mem_cons.mpr ⟨lw_p14, List.forall_mem_cons.mpr ⟨lw_p15, fun _ h => absurd h List.not_mem_nil⟩⟩⟩⟩⟩⟩⟩⟩⟩⟩⟩⟩⟩⟩⟩⟩
theorem lw_p16 : lw_okq (⟨"CallJoin$Calls", "weighCall", "(I)I"⟩, 11) := ⟨⟨by decide +kernel, by decide +kernel⟩, List.mem_of_getElem? (i := 71) (by decide +kernel), List.mem_of_getElem? (i := 560) (by decide +kernel), List.mem_of_getElem? (i := 561) (by decide +kernel)⟩
theorem lw_p17 : lw_okq (⟨"CallJoinModel", "throwing", "(ZZZ)Z"⟩, 24) := ⟨⟨by decide +kernel, by decide +kernel⟩, List.mem_of_getElem? (i := 598) (by decide +kernel), List.mem_of_getElem? (i := 692) (by decide +kernel), List.mem_of_getElem? (i := 693) (by decide +kernel)⟩
theorem lw_p18 : lw_okq (⟨"CallJoinModel", "isRange", "(III)Z"⟩, 24) := ⟨⟨by decide +kernel, by decide +kernel⟩, List.mem_of_getElem? (i := 598) (by decide +kernel), List.mem_of_getElem? (i := 718) (by decide +kernel), List.mem_of_getElem? (i := 719) (by decide +kernel)⟩
theorem lw_p19 : lw_okq (⟨"CallJoinModel", "reason", "(IIIIII)I"⟩, 24) := ⟨⟨by decide +kernel, by decide +kernel⟩, List.mem_of_getElem? (i := 598) (by decide +kernel), List.mem_of_getElem? (i := 722) (by decide +kernel), List.mem_of_getElem? (i := 723) (by decide +kernel)⟩
theorem lw_p20 : lw_okq (⟨"CallJoinModel", "again", "(III)I"⟩, 24) := ⟨⟨by decide +kernel, by decide +kernel⟩, List.mem_of_getElem? (i := 598) (by decide +kernel), List.mem_of_getElem? (i := 726) (by decide +kernel), List.mem_of_getElem? (i := 727) (by decide +kernel)⟩
theorem lw_p21 : lw_okq (⟨"CallJoinModel", "isOpen", "(I)Z"⟩, 24) := ⟨⟨by decide +kernel, by decide +kernel⟩, List.mem_of_getElem? (i := 598) (by decide +kernel), List.mem_of_getElem? (i := 730) (by decide +kernel), List.mem_of_getElem? (i := 731) (by decide +kernel)⟩
theorem lw_p22 : lw_okq (⟨"CallJoinModel", "isHoax", "(I)Z"⟩, 24) := ⟨⟨by decide +kernel, by decide +kernel⟩, List.mem_of_getElem? (i := 598) (by decide +kernel), List.mem_of_getElem? (i := 734) (by decide +kernel), List.mem_of_getElem? (i := 735) (by decide +kernel)⟩
theorem lw_p23 : lw_okq (⟨"CallJoinModel", "onStretch", "(III)I"⟩, 24) := ⟨⟨by decide +kernel, by decide +kernel⟩, List.mem_of_getElem? (i := 598) (by decide +kernel), List.mem_of_getElem? (i := 738) (by decide +kernel), List.mem_of_getElem? (i := 739) (by decide +kernel)⟩
theorem lw_p24 : lw_okq (⟨"CallJoinModel", "firstOf", "(I)I"⟩, 24) := ⟨⟨by decide +kernel, by decide +kernel⟩, List.mem_of_getElem? (i := 598) (by decide +kernel), List.mem_of_getElem? (i := 742) (by decide +kernel), List.mem_of_getElem? (i := 743) (by decide +kernel)⟩
theorem lw_p25 : lw_okq (⟨"CallJoinModel", "isOn", "(III)Z"⟩, 24) := ⟨⟨by decide +kernel, by decide +kernel⟩, List.mem_of_getElem? (i := 598) (by decide +kernel), List.mem_of_getElem? (i := 746) (by decide +kernel), List.mem_of_getElem? (i := 747) (by decide +kernel)⟩
theorem lw_p26 : lw_okq (⟨"CallJoinModel", "agreeing", "(IIIII)I"⟩, 24) := ⟨⟨by decide +kernel, by decide +kernel⟩, List.mem_of_getElem? (i := 598) (by decide +kernel), List.mem_of_getElem? (i := 757) (by decide +kernel), List.mem_of_getElem? (i := 758) (by decide +kernel)⟩
theorem lw_p27 : lw_okq (⟨"CallJoinModel", "meets", "(IIIII)I"⟩, 24) := ⟨⟨by decide +kernel, by decide +kernel⟩, List.mem_of_getElem? (i := 598) (by decide +kernel), List.mem_of_getElem? (i := 761) (by decide +kernel), List.mem_of_getElem? (i := 762) (by decide +kernel)⟩
theorem lw_p28 : lw_okq (⟨"CallJoinModel", "sum", "(II)I"⟩, 24) := ⟨⟨by decide +kernel, by decide +kernel⟩, List.mem_of_getElem? (i := 598) (by decide +kernel), List.mem_of_getElem? (i := 765) (by decide +kernel), List.mem_of_getElem? (i := 766) (by decide +kernel)⟩
theorem lw_p29 : lw_okq (⟨"CallJoinModel", "isEnough", "(III)Z"⟩, 24) := ⟨⟨by decide +kernel, by decide +kernel⟩, List.mem_of_getElem? (i := 598) (by decide +kernel), List.mem_of_getElem? (i := 769) (by decide +kernel), List.mem_of_getElem? (i := 770) (by decide +kernel)⟩
theorem lw_p30 : lw_okq (⟨"CallJoinModel", "isBetter", "(IIIII)Z"⟩, 24) := ⟨⟨by decide +kernel, by decide +kernel⟩, List.mem_of_getElem? (i := 598) (by decide +kernel), List.mem_of_getElem? (i := 774) (by decide +kernel), List.mem_of_getElem? (i := 775) (by decide +kernel)⟩
theorem lw_p31 : lw_okq (⟨"CallJoinModel", "newEvent", "()I"⟩, 24) := ⟨⟨by decide +kernel, by decide +kernel⟩, List.mem_of_getElem? (i := 598) (by decide +kernel), List.mem_of_getElem? (i := 778) (by decide +kernel), List.mem_of_getElem? (i := 779) (by decide +kernel)⟩
def lw_privs_2 : List (MethodName × Nat) := [(⟨"CallJoin$Calls", "weighCall", "(I)I"⟩, 11), (⟨"CallJoinModel", "throwing", "(ZZZ)Z"⟩, 24), (⟨"CallJoinModel", "isRange", "(III)Z"⟩, 24), (⟨"CallJoinModel", "reason", "(IIIIII)I"⟩, 24), (⟨"CallJoinModel", "again", "(III)I"⟩, 24), (⟨"CallJoinModel", "isOpen", "(I)Z"⟩, 24), (⟨"CallJoinModel", "isHoax", "(I)Z"⟩, 24), (⟨"CallJoinModel", "onStretch", "(III)I"⟩, 24), (⟨"CallJoinModel", "firstOf", "(I)I"⟩, 24), (⟨"CallJoinModel", "isOn", "(III)Z"⟩, 24), (⟨"CallJoinModel", "agreeing", "(IIIII)I"⟩, 24), (⟨"CallJoinModel", "meets", "(IIIII)I"⟩, 24), (⟨"CallJoinModel", "sum", "(II)I"⟩, 24), (⟨"CallJoinModel", "isEnough", "(III)Z"⟩, 24), (⟨"CallJoinModel", "isBetter", "(IIIII)Z"⟩, 24), (⟨"CallJoinModel", "newEvent", "()I"⟩, 24)]
theorem lw_r2 : ∀ q ∈ lw_privs_2, lw_okq q := List.forall_mem_cons.mpr ⟨lw_p16, List.forall_mem_cons.mpr ⟨lw_p17, List.forall_mem_cons.mpr ⟨lw_p18, List.forall_mem_cons.mpr ⟨lw_p19, List.forall_mem_cons.mpr ⟨lw_p20, List.forall_mem_cons.mpr ⟨lw_p21, List.forall_mem_cons.mpr ⟨lw_p22, List.forall_mem_cons.mpr ⟨lw_p23, List.forall_mem_cons.mpr ⟨lw_p24, List.forall_mem_cons.mpr ⟨lw_p25, List.forall_mem_cons.mpr ⟨lw_p26, List.forall_mem_cons.mpr ⟨lw_p27, List.forall_mem_cons.mpr ⟨lw_p28, List.forall_mem_cons.mpr ⟨lw_p29, List.forall_mem_cons.mpr ⟨lw_p30, List.forall_mem_cons.mpr ⟨lw_p31, fun _ h => absurd h List.not_mem_nil⟩⟩⟩⟩⟩⟩⟩⟩⟩⟩⟩⟩⟩⟩⟩⟩
theorem lw_p32 : lw_okq (⟨"CallJoinModel", "isCall", "(I)Z"⟩, 24) := ⟨⟨by decide +kernel, by decide +kernel⟩, List.mem_of_getElem? (i := 598) (by decide +kernel), List.mem_of_getElem? (i := 790) (by decide +kernel), List.mem_of_getElem? (i := 791) (by decide +kernel)⟩
theorem lw_p33 : lw_okq (⟨"CallJoinModel", "isEvent", "(I)Z"⟩, 24) := ⟨⟨by decide +kernel, by decide +kernel⟩, List.mem_of_getElem? (i := 598) (by decide +kernel), List.mem_of_getElem? (i := 802) (by decide +kernel), List.mem_of_getElem? (i := 803) (by decide +kernel)⟩
theorem lw_p34 : lw_okq (⟨"CallJoinModel", "size", "(I)I"⟩, 24) := ⟨⟨by decide +kernel, by decide +kernel⟩, List.mem_of_getElem? (i := 598) (by decide +kernel), List.mem_of_getElem? (i := 806) (by decide +kernel), List.mem_of_getElem? (i := 807) (by decide +kernel)⟩
theorem lw_p35 : lw_okq (⟨"CallJoinModel", "weightOf", "(I)I"⟩, 24) := ⟨⟨by decide +kernel, by decide +kernel⟩, List.mem_of_getElem? (i := 598) (by decide +kernel), List.mem_of_getElem? (i := 834) (by decide +kernel), List.mem_of_getElem? (i := 835) (by decide +kernel)⟩
theorem lw_p36 : lw_okq (⟨"CallJoinModel", "placeOf", "(I)I"⟩, 24) := ⟨⟨by decide +kernel, by decide +kernel⟩, List.mem_of_getElem? (i := 598) (by decide +kernel), List.mem_of_getElem? (i := 838) (by decide +kernel), List.mem_of_getElem? (i := 839) (by decide +kernel)⟩
theorem lw_p37 : lw_okq (⟨"CallJoinModel", "latestOf", "(I)I"⟩, 24) := ⟨⟨by decide +kernel, by decide +kernel⟩, List.mem_of_getElem? (i := 598) (by decide +kernel), List.mem_of_getElem? (i := 842) (by decide +kernel), List.mem_of_getElem? (i := 843) (by decide +kernel)⟩
def lw_privs_3 : List (MethodName × Nat) := [(⟨"CallJoinModel", "isCall", "(I)Z"⟩, 24), (⟨"CallJoinModel", "isEvent", "(I)Z"⟩, 24), (⟨"CallJoinModel", "size", "(I)I"⟩, 24), (⟨"CallJoinModel", "weightOf", "(I)I"⟩, 24), (⟨"CallJoinModel", "placeOf", "(I)I"⟩, 24), (⟨"CallJoinModel", "latestOf", "(I)I"⟩, 24)]
theorem lw_r3 : ∀ q ∈ lw_privs_3, lw_okq q := List.forall_mem_cons.mpr ⟨lw_p32, List.forall_mem_cons.mpr ⟨lw_p33, List.forall_mem_cons.mpr ⟨lw_p34, List.forall_mem_cons.mpr ⟨lw_p35, List.forall_mem_cons.mpr ⟨lw_p36, List.forall_mem_cons.mpr ⟨lw_p37, fun _ h => absurd h List.not_mem_nil⟩⟩⟩⟩⟩⟩
def lw_privs : List (MethodName × Nat) := lw_privs_1 ++ (lw_privs_2 ++ (lw_privs_3))
def lw_tbl : List Cond := k2_sels lw_privs ++ tables_1
theorem lw_privs_ok : ∀ q ∈ lw_privs, lw_okq q := by
  show ∀ q ∈ lw_privs_1 ++ (lw_privs_2 ++ (lw_privs_3)), lw_okq q
  exact List.forall_mem_append.mpr ⟨lw_r1, List.forall_mem_append.mpr ⟨lw_r2, lw_r3⟩⟩
end
section
theorem goodIn_r {big : List Cond} (ws : List Cond) (ps : List Nat) (hp : ws = ps.filterMap (fun i => big[i]?)) (h : ws.all goodWord = true) : GoodIn big ws := by
  intro w hw
  have h1 := List.all_eq_true.mp h w hw
  rw [hp] at hw
  obtain ⟨i, -, hi⟩ := List.mem_filterMap.mp hw
  have hm : w ∈ big := by first | exact List.mem_of_getElem? hi | exact List.getElem?_mem hi
  exact ⟨hm, good_of_word h1⟩
theorem goodIn_app {big a b : List Cond} (ha : GoodIn big a) (hb : GoodIn big b) : GoodIn big (a ++ b) := fun w h => (List.mem_append.mp h).elim (ha w) (hb w)
theorem goodIn_ca {big a b : List Cond} {c : Cond} (ha : GoodIn big (c :: a)) (hb : GoodIn big b) : GoodIn big (c :: (a ++ b)) := fun w h => (List.mem_cons.mp h).elim (fun e => ha w (List.mem_cons.mpr (Or.inl e))) (fun h => (List.mem_append.mp h).elim (fun h => ha w (List.mem_cons.mpr (Or.inr h))) (hb w))
theorem goodIn_sub {big ws : List Cond} (hm : ∀ w ∈ ws, w ∈ big) (h : ws.all goodWord = true) : GoodIn big ws := fun w hw => ⟨hm w hw, good_of_word (List.all_eq_true.mp h w hw)⟩

section VXA
def vx_T (XC : String → State → State → Prop) (st : State) (q : Addr) (t : State) (mc ms : Nat) (free : Addr → Prop) : Prop :=
  ∃ (E : String) (ce : Cell) (L : List Loc), XC E st t ∧ t.heap[q]? = some ce ∧ ce.vm = .none ∧ st.vm.findClass E = some ce.cls ∧ st.WarmedH t.vm ∧ st.sameButNew ({ t with vm := st.vm } : State) L mc ms ∧ ∀ z ∈ L, free z.base
def vx_Q (Qc : Array Value → State → Outcome → State → Prop) (XC : String → State → State → Prop) (mc ms : Nat) (free : Addr → Prop) : Array Value → State → Outcome → State → Prop := fun a st o t =>
  (Qc a st o t ∧ ∃ L, FrameEnd st o t L mc ms ∧ ∀ q ∈ L, free q.base) ∨ ∃ q, o = .threw q ∧ vx_T XC st q t mc ms free
def vx_Met (l : Launch) (y : MethodName) (ws : List Cond) (rm : Room) (Pc : Array Value → State → Prop) (Qc : Array Value → State → Outcome → State → Prop) (XC : String → State → State → Prop) (mc ms : Nat) (free : Addr → Prop) : Prop :=
  MetFree l y (headSpec ws rm) Pc (fun _ _ _ _ _ => True) (vx_Q Qc XC mc ms free)
def vx_Post (XC : String → State → State → Prop) (mc ms : Nat) (free : Addr → Prop) : Pt → Array Value → Addr → Pt → Prop := fun A a q B =>
  ∃ (g : JFrame) (mk : MethodId) (t : State) (L : List Loc) (E : String) (ce : Cell), B.U.heap = t.heap ∧ B.U.vm = t.vm ∧ XC E (A.U.calling g mk a) t ∧ t.heap[q]? = some ce ∧ ce.vm = .none ∧ A.U.vm.findClass E = some ce.cls ∧ B.locs = A.locs ++ L ∧ (∀ z ∈ L, free z.base) ∧ B.cells = A.cells + mc ∧ B.slots = A.slots + ms
def vx_Back (l : Launch) (R : Room) (p : Program) (e : Env) (below : List Frame) (s : State) (sargs : Array Value) (y : MethodName) (len W9 : Nat)
    (Pre : Pt → Array Value → Prop) (Post : Pt → Array Value → Option Value → Pt → Prop) (PostX : Pt → Array Value → Addr → Pt → Prop) : Prop :=
  ∀ (m : MethodId) (meth : Method) (c : Code) (A : Pt) (g : JFrame) (ig : Instr) (mk : MethodId) (a : Array Value),
    Stand p l e R s m sargs below meth c A.U A.locs A.cells A.slots → g.method = m → g.locals.size = c.maxLocals → decode c.code g.pc = .ok (ig, len) →
    2 * g.monitorRoom + (g.stack.map fun v => v.category).sum ≤ W9 → A.U.methodNamed? y = some mk → Pre A a →
    (∃ (v : Option Value) (B : Pt), Stand p l e R s m sargs below meth c B.U B.locs B.cells B.slots ∧ Post A a v B ∧
      Steps p.tables e below (doInvoke e (A.U.setTop g) [] mk a).1 (B.U.setTop { g with pc := g.pc + len, stack := v.toList ++ g.stack })) ∨
    (∃ (q : Addr) (B : Pt), Stand p l e R s m sargs below meth c B.U B.locs B.cells B.slots ∧ PostX A a q B ∧
      Steps p.tables e below (doInvoke e (A.U.setTop g) [] mk a).1 ((B.U.setTop g).pushFrame (.throwing q)))
section Payer
variable {l : Launch} {R : Room} {p : Program} {e : Env} {below : List Frame} {s : State} {sargs : Array Value} {y : MethodName} {len W9 : Nat}
theorem vx_back {ws : List Cond} {rm : Room} {Pc : Array Value → State → Prop} {Qc : Array Value → State → Outcome → State → Prop} {XC : String → State → State → Prop} {mc ms : Nat} {free : Addr → Prop} {bytes : ByteArray} {maxL : Nat} {ret : Option FieldType}
    (hM : vx_Met l y ws rm Pc Qc XC mc ms free) (hblind : FrameBlind Pc) (hrc : rm.cells = mc) (hrs : rm.slots = ms)
    (hframes : rm.frames + 1 ≤ R.frames) (hlocals : W9 + (maxL + 11) + rm.locals ≤ R.locals)
    (hws : ∀ w ∈ ws, ∀ a' U, s.WarmedH U.vm → w.before a' U = true) (hcode : Cond.code y bytes maxL ret ∈ ws) (hinit : ∀ a' U, s.WarmedH U.vm → (Cond.initialized y.cls).before a' U = true) :
    vx_Back l R p e below s sargs y len W9 (PreOf R mc ms Pc) (PostOf Qc mc ms free) (vx_Post XC mc ms free) := by
  intro m meth c A g ig mk a X hg hsize hdg hW hn hp
  have h1 : (headSpec ws rm).pre.before a A.U = true := atoms_intro fun w hw => hws w hw _ _ X.warmed
  have h2 : (Cond.code y bytes maxL ret).before a A.U = true := hws _ hcode _ _ X.warmed
  have h3 : (Cond.initialized y.cls).before a A.U = true := hinit _ _ X.warmed
  have h4 : A.cells + (headSpec ws rm).room.cells ≤ R.cells := by rw [show (headSpec ws rm).room.cells = mc from hrc]; exact hp.1
  have h5 : A.slots + (headSpec ws rm).room.slots ≤ R.slots := by rw [show (headSpec ws rm).room.slots = ms from hrs]; exact hp.2.1
  have hPc : Pc a (A.U.calling g mk a) := hblind _ _ _ _ hp.2.2
  obtain ⟨U, Ls, c0, s0⟩ := A
  dsimp only [Pt.U, Pt.locs, Pt.cells, Pt.slots] at h1 h2 h3 h4 h5 X hn hPc ⊢
  obtain ⟨methY, cY, hmY, hcY, -, hlY, -, -, -, -⟩ := Cond.code_spec hn h2
  obtain ⟨kY, hkY, -⟩ := className_of_methodNamed hn
  have hinitY : kY.init = .initialized := Cond.initialized_spec (findClass_of_methodNamed hn) hkY h3
  have h : At U g.method c below := by rw [hg]; exact X.here
  have hlocals9 : W9 + (maxL + 11) + (headSpec ws rm).room.locals ≤ R.locals := hlocals
  have happ : (headSpec ws rm).appliesLoose y e.platform (U.calling g mk a) = true :=
    Spec.appliesLoose_calling (g := g) h hdg hn hkY hinitY
      (X.room_calling (g := g) (R' := (headSpec ws rm).room) hsize hmY hcY hframes (by rw [hlY]; omega) h4 h5) h1
  obtain ⟨mid, hmid⟩ := h.above
  have hfr : (U.setTop g).frames = (.java g :: mid) ++ below := by rw [State.frames_setTop' g h.top, hmid]; rfl
  obtain ⟨o, s₂, hsteps, -, hend, hq⟩ := Steps.callFree hM p X.admits X.cas X.clock (acts := []) hfr happ hPc trivial
  have hq' : vx_Q Qc XC mc ms free a (U.calling g mk a) o s₂ := hq
  rw [State.frames_setTop' g h.top] at hend
  obtain ⟨g₀, hg0⟩ := Option.isSome_iff_exists.mp h.top
  obtain ⟨r, hr⟩ := State.topJava?_eq_some.mp hg0
  have hr' : (({ U with heap := s₂.heap, slotsUsed := s₂.slotsUsed } : State).setVm s₂.vm).frames = .java g₀ :: r := hr
  rcases hq' with ⟨hqc, L, hfe, hL⟩ | ⟨q, rfl, E, ce, L, hx, hce, hcv, hcl, hW₂, hsm, hL⟩
  · obtain ⟨⟨v, rfl⟩, hW₂, e2, q2, q3, q4, q5, q6⟩ := id hfe
    have e3 : s₂ = ({ (U.calling g mk a).setFrames s₂.frames with heap := s₂.heap, slotsUsed := s₂.slotsUsed } : State).setVm s₂.vm := by
      have : s₂ = ({ s₂ with vm := (U.calling g mk a).vm } : State).setVm s₂.vm := rfl
      rw [e2] at this
      exact this
    obtain ⟨c₂, i₂, len₂, hc₂, hd₂, hf₂⟩ := hend
    have hW' : U.WarmedH s₂.vm := hW₂
    have hcc : c₂ = c := by
      have h1 : s₂.code? g.method = U.code? g.method := by
        rw [State.code?_eq, State.code?_eq, hW'.alike.method?]
      exact Option.some.inj (hc₂.symm.trans (h1.trans h.code))
    subst hcc
    have hlen : len₂ = len := by rw [hdg] at hd₂; cases hd₂; rfl
    subst hlen
    have hs₂ : s₂ = (({ U with heap := s₂.heap, slotsUsed := s₂.slotsUsed } : State).setVm s₂.vm).setTop { g with pc := g.pc + len₂, stack := v.toList ++ g.stack } := by
      refine e3.trans ?_
      rw [hf₂, State.calling_eq h.top, State.setFrames_setFrames, State.setTop_of_frames _ hr', hr]
      rfl
    have hsame : U.sameButNew ({ U with heap := s₂.heap, slotsUsed := s₂.slotsUsed } : State) L mc ms := by
      refine ⟨?_, q2, q3, q4, q5, q6⟩
      obtain ⟨t, ht, -⟩ := State.frames_cons hr
      show ({ U with heap := s₂.heap, slotsUsed := s₂.slotsUsed } : State) = { U.setFrames U.frames with heap := s₂.heap, slotsUsed := s₂.slotsUsed }
      rw [State.setFrames_self ht]
    subst hg
    refine Or.inl ⟨v, ⟨(({ U with heap := s₂.heap, slotsUsed := s₂.slotsUsed } : State).setVm s₂.vm), Ls ++ L, c0 + mc, s0 + ms⟩,
      ⟨X.admits, X.cas, X.clock, X.frames, X.room, X.hears, X.method, X.code, (X.here.setHeapUsed s₂.heap s₂.slotsUsed).setVm hW'.alike, X.tail, State.WarmedH.trans X.warmed hW', X.limits, X.bytes, X.same.trans (hsame.setVm s.vm)⟩,
      ⟨g, mk, s₂, L, rfl, rfl, hqc, rfl, hL, rfl, rfl⟩, ?_⟩
    show Steps p.tables e below _ ((({ U with heap := s₂.heap, slotsUsed := s₂.slotsUsed } : State).setVm s₂.vm).setTop { g with pc := g.pc + len₂, stack := v.toList ++ g.stack })
    rw [← hs₂]
    exact hsteps
  · obtain ⟨e2, q2, q3, q4, q5, q6⟩ := id hsm
    have e3 : s₂ = ({ (U.calling g mk a).setFrames s₂.frames with heap := s₂.heap, slotsUsed := s₂.slotsUsed } : State).setVm s₂.vm := by
      have : s₂ = ({ s₂ with vm := (U.calling g mk a).vm } : State).setVm s₂.vm := rfl
      rw [e2] at this
      exact this
    have hf₂ : s₂.frames = .throwing q :: .java g :: U.frames.tail := hend
    have hW' : U.WarmedH s₂.vm := hW₂
    have hs₂ : s₂ = ((({ U with heap := s₂.heap, slotsUsed := s₂.slotsUsed } : State).setVm s₂.vm).setTop g).pushFrame (.throwing q) := by
      refine e3.trans ?_
      rw [hf₂, State.calling_eq h.top, State.setFrames_setFrames, State.pushFrame, State.frames_setTop _ hr', State.setTop_of_frames _ hr', State.setFrames_setFrames, hr]
      rfl
    have hsame : U.sameButNew ({ U with heap := s₂.heap, slotsUsed := s₂.slotsUsed } : State) L mc ms := by
      refine ⟨?_, q2, q3, q4, q5, q6⟩
      obtain ⟨t, ht, -⟩ := State.frames_cons hr
      show ({ U with heap := s₂.heap, slotsUsed := s₂.slotsUsed } : State) = { U.setFrames U.frames with heap := s₂.heap, slotsUsed := s₂.slotsUsed }
      rw [State.setFrames_self ht]
    subst hg
    refine Or.inr ⟨q, ⟨(({ U with heap := s₂.heap, slotsUsed := s₂.slotsUsed } : State).setVm s₂.vm), Ls ++ L, c0 + mc, s0 + ms⟩,
      ⟨X.admits, X.cas, X.clock, X.frames, X.room, X.hears, X.method, X.code, (X.here.setHeapUsed s₂.heap s₂.slotsUsed).setVm hW'.alike, X.tail, State.WarmedH.trans X.warmed hW', X.limits, X.bytes, X.same.trans (hsame.setVm s.vm)⟩,
      ⟨g, mk, s₂, L, E, ce, rfl, rfl, hx, hce, hcv, hcl, rfl, hL, rfl, rfl⟩, ?_⟩
    show Steps p.tables e below _ (((({ U with heap := s₂.heap, slotsUsed := s₂.slotsUsed } : State).setVm s₂.vm).setTop g).pushFrame (.throwing q))
    rw [← hs₂]
    exact hsteps
end Payer
section Calls
variable {p : Program} {l : Launch} {e : Env} {R : Room} {s : State} {m : MethodId} {args : Array Value} {below : List Frame} {meth : Method} {c : Code} {T : State} {locs : List Loc} {cells slots : Nat}
theorem vx_callV (X : Stand p l e R s m args below meth c T locs cells slots) (hexec : p.tables.exec = Jvm.exec) {own C : String} {index : Nat} {y : MethodName} {bytes : ByteArray} {maxL : Nat} {ret : Option FieldType}
    (hown : s.vm.findClass own = some m.cls) (hlink : (Cond.methodLink own index y).before args s = true) (hinst : (Cond.instanceMethod y).before args s = true) (hsel : (Cond.selects C y y).before args s = true)
    (hcode : (Cond.code y bytes maxL ret).before args s = true) (hy : y.cls ≠ "java/lang/invoke/MethodHandle" ∧ y.cls ≠ "java/lang/invoke/VarHandle")
    {W9 : Nat} {Pre : Pt → Array Value → Prop} {Post : Pt → Array Value → Option Value → Pt → Prop} {PostX : Pt → Array Value → Addr → Pt → Prop} (hK : vx_Back l R p e below s args y 3 W9 Pre Post PostX)
    {b : Addr} {cellB : Cell} (hcell : T.heap[b]? = some cellB) (hobj : cellB.vm.isStatics = false) (hcls : s.vm.findClass C = some cellB.cls)
    {g : JFrame} (hg : g.method = m) (hsize : g.locals.size = c.maxLocals) {argsL rest : List Value} (hlen : ∀ sig, parseMethodDescriptor y.desc = some sig → argsL.length = sig.parameters.length)
    (hstack : g.stack = argsL.reverse ++ .ref b :: rest) (hW : 2 * g.monitorRoom + (rest.map fun v => v.category).sum ≤ W9) (hdg : decode c.code g.pc = .ok (.invokevirtual index, 3))
    (hpre : ∀ vm₁, s.WarmedH vm₁ → Pre ⟨T.setVm vm₁, locs, cells, slots⟩ (Value.ref b :: argsL).toArray) :
    (∃ (v : Option Value) (vm₁ : Vm) (B : Pt), s.WarmedH vm₁ ∧ Stand p l e R s m args below meth c B.U B.locs B.cells B.slots ∧ Post ⟨T.setVm vm₁, locs, cells, slots⟩ (Value.ref b :: argsL).toArray v B ∧
      ∀ target, Steps p.tables e below (B.U.setTop { g with pc := g.pc + 3, stack := v.toList ++ rest }) target → Steps p.tables e below (T.setTop g) target) ∨
    (∃ (q : Addr) (vm₁ : Vm) (B : Pt), s.WarmedH vm₁ ∧ Stand p l e R s m args below meth c B.U B.locs B.cells B.slots ∧ PostX ⟨T.setVm vm₁, locs, cells, slots⟩ (Value.ref b :: argsL).toArray q B ∧
      Steps p.tables e below (T.setTop g) ((B.U.setTop { g with stack := rest }).pushFrame (.throwing q))) := by
  obtain ⟨mk, methM, hnamed, hmethM, hstM, habM⟩ := Cond.instanceMethod_spec hinst
  obtain ⟨methM', cM, hmethM', -, -, -, -, -, -, hsigM⟩ := Cond.code_spec hnamed hcode
  cases hmethM.symm.trans hmethM'
  obtain ⟨c2, r2, m2, q1, q2, q3, q4, kP, hkP, hkPi⟩ := Cond.selects_spec hsel
  cases hcls.symm.trans q1
  cases (State.methodFound?_of_named hnamed hy).symm.trans q2
  cases hnamed.symm.trans q3
  have hselP : selectMethod e.platform s.vm cellB.cls mk = .method mk := by rw [Launch.admits_selectMethod X.admits]; exact q4
  obtain ⟨vm₁, X₁, hstep₁⟩ := X.invokevirtual hexec hown hlink hnamed hmethM hstM hkP hkPi hy (a := b) (cell := cellB) hcell
    (fun z h => by rw [h] at hobj; cases hobj) hselP hmethM habM hkP hkPi (g := g) hg (argsL := argsL) (rest := rest) (hlen _ hsigM) hstack hdg
  rcases hK m meth c ⟨T.setVm vm₁, locs, cells, slots⟩ { g with stack := rest } (.invokevirtual index) mk (Value.ref b :: argsL).toArray X₁ hg hsize hdg hW (X₁.named hnamed) (hpre vm₁ X₁.warmed) with ⟨v, B, X', hpost, hsteps⟩ | ⟨q, B, X', hpost, hsteps⟩
  · exact Or.inl ⟨v, vm₁, B, X₁.warmed, X', hpost, fun target h => hstep₁ _ fun acts => by rw [doInvoke_state]; exact hsteps.trans h⟩
  · exact Or.inr ⟨q, vm₁, B, X₁.warmed, X', hpost, hstep₁ _ fun acts => by rw [doInvoke_state]; exact hsteps⟩
theorem vx_callS (X : Stand p l e R s m args below meth c T locs cells slots) (hexec : p.tables.exec = Jvm.exec) {own : String} {index : Nat} {y : MethodName} {bytes : ByteArray} {maxL : Nat} {ret : Option FieldType}
    (hown : s.vm.findClass own = some m.cls) (hlink : (Cond.methodLink own index y).before args s = true) (hstat : (Cond.static y).before args s = true) (hinit : (Cond.initialized y.cls).before args s = true)
    (hcode : (Cond.code y bytes maxL ret).before args s = true) (hy : y.cls ≠ "java/lang/invoke/MethodHandle" ∧ y.cls ≠ "java/lang/invoke/VarHandle")
    {W9 : Nat} {Pre : Pt → Array Value → Prop} {Post : Pt → Array Value → Option Value → Pt → Prop} {PostX : Pt → Array Value → Addr → Pt → Prop} (hK : vx_Back l R p e below s args y 3 W9 Pre Post PostX)
    {g : JFrame} (hg : g.method = m) (hsize : g.locals.size = c.maxLocals) {argsL rest : List Value} (hlen : ∀ sig, parseMethodDescriptor y.desc = some sig → argsL.length = sig.parameters.length)
    (hstack : g.stack = argsL.reverse ++ rest) (hW : 2 * g.monitorRoom + (rest.map fun v => v.category).sum ≤ W9) (hdg : decode c.code g.pc = .ok (.invokestatic index, 3))
    (hpre : ∀ vm₁, s.WarmedH vm₁ → Pre ⟨T.setVm vm₁, locs, cells, slots⟩ argsL.toArray) :
    (∃ (v : Option Value) (vm₁ : Vm) (B : Pt), s.WarmedH vm₁ ∧ Stand p l e R s m args below meth c B.U B.locs B.cells B.slots ∧ Post ⟨T.setVm vm₁, locs, cells, slots⟩ argsL.toArray v B ∧
      ∀ target, Steps p.tables e below (B.U.setTop { g with pc := g.pc + 3, stack := v.toList ++ rest }) target → Steps p.tables e below (T.setTop g) target) ∨
    (∃ (q : Addr) (vm₁ : Vm) (B : Pt), s.WarmedH vm₁ ∧ Stand p l e R s m args below meth c B.U B.locs B.cells B.slots ∧ PostX ⟨T.setVm vm₁, locs, cells, slots⟩ argsL.toArray q B ∧
      Steps p.tables e below (T.setTop g) ((B.U.setTop { g with stack := rest }).pushFrame (.throwing q))) := by
  obtain ⟨mk, hnamed⟩ := Cond.code_named hcode
  obtain ⟨methM, cM, hmethM, -, -, -, -, -, -, hsigM⟩ := Cond.code_spec hnamed hcode
  have hstatic : methM.isStatic = true := Cond.static_spec hnamed hmethM hstat
  obtain ⟨kP, hkP, -⟩ := className_of_methodNamed hnamed
  have hinitP : kP.init = .initialized := Cond.initialized_spec (findClass_of_methodNamed hnamed) hkP hinit
  obtain ⟨vm₁, X₁, hstep₁⟩ := X.invokestatic hexec hown hlink hnamed hmethM hstatic hkP hinitP hy (g := g) hg (argsL := argsL) (rest := rest) (hlen _ hsigM) hstack hdg
  rcases hK m meth c ⟨T.setVm vm₁, locs, cells, slots⟩ { g with stack := rest } (.invokestatic index) mk argsL.toArray X₁ hg hsize hdg hW (X₁.named hnamed) (hpre vm₁ X₁.warmed) with ⟨v, B, X', hpost, hsteps⟩ | ⟨q, B, X', hpost, hsteps⟩
  · exact Or.inl ⟨v, vm₁, B, X₁.warmed, X', hpost, fun target h => hstep₁ _ fun acts => by rw [doInvoke_state]; exact hsteps.trans h⟩
  · exact Or.inr ⟨q, vm₁, B, X₁.warmed, X', hpost, hstep₁ _ fun acts => by rw [doInvoke_state]; exact hsteps⟩
end Calls
theorem vx_cls {s : State} {T : State} {vm₁ : Vm} {E : String} {k : ClassId} (hW : s.WarmedH vm₁) (h : (T.setVm vm₁).vm.findClass E = some k) : s.vm.findClass E = some k := by
  have h1 : vm₁.findClass E = some k := h
  rw [hW.alike.findClass] at h1
  exact h1
def vx_W (p : Program) (l : Launch) (e : Env) (R : Room) (s : State) (m : MethodId) (args : Array Value) (below : List Frame) (meth : Method) (c : Code) (H : Heap) (locs : List Loc) (cells slots : Nat) (Q : State → Prop) (g : JFrame) (q : Addr) : Prop :=
  ∀ T : State, T.heap = H → Stand p l e R s m args below meth c T locs cells slots → ∃ t, Steps p.tables e below ((T.setTop g).pushFrame (.throwing q)) t ∧ Q t
def vx_Run (p : Program) (l : Launch) (e : Env) (R : Room) (s : State) (m : MethodId) (args : Array Value) (below : List Frame) (meth : Method) (c : Code) (H : Heap) (locs : List Loc) (cells slots mc ms : Nat) (g : JFrame) (rest : List Value) (Qa : State → Outcome → State → Prop) (XC : String → State → State → Prop) (free : Addr → Prop) : Prop :=
  ∀ T : State, T.heap = H → Stand p l e R s m args below meth c T locs cells slots →
    (∃ (v : Option Value) (st₀ t T' : State) (L : List Loc), st₀.heap = H ∧ Stand p l e R s m args below meth c T' (locs ++ L) (cells + mc) (slots + ms) ∧ (∀ q ∈ L, free q.base) ∧ T'.heap = t.heap ∧ T'.vm = t.vm ∧ Qa st₀ (.returned v) t ∧
      Goes p e below T g T' { g with pc := g.pc + 3, stack := v.toList ++ rest }) ∨
    (∃ (q : Addr) (st₀ t T' : State) (L : List Loc) (E : String) (ce : Cell), st₀.heap = H ∧ Stand p l e R s m args below meth c T' (locs ++ L) (cells + mc) (slots + ms) ∧ (∀ z ∈ L, free z.base) ∧ T'.heap = t.heap ∧ T'.vm = t.vm ∧ XC E st₀ t ∧ t.heap[q]? = some ce ∧ ce.vm = .none ∧ s.vm.findClass E = some ce.cls ∧
      Steps p.tables e below (T.setTop g) ((T'.setTop { g with stack := rest }).pushFrame (.throwing q)))
def vx_X {S : Type} (px : S → Prop) (B : String → S → State → Prop) (A : Nat → Prop) : String → State → State → Prop := fun E st t => ∃ u : S, px u ∧ B E u t ∧ va_F A st t
section Runs
variable {p : Program} {l : Launch} {e : Env} {R : Room} {s : State} {m : MethodId} {args : Array Value} {below : List Frame} {meth : Method} {c : Code} {H : Heap} {locs : List Loc} {cells slots : Nat}
variable {y : MethodName} {bytes cc : ByteArray} {maxL nL mc ms n index : Nat} {ret : Option FieldType} {ws : List Cond} {rm : Room} {Pc : Array Value → State → Prop} {Qc : Array Value → State → Outcome → State → Prop} {XC : String → State → State → Prop} {free : Addr → Prop} {Ts : List Cond} {own C : String} {b : Addr} {As rest : List Value} {g : JFrame}
theorem vx_callBack (cb : CallB R s args own index y bytes maxL ret ws rm mc ms n) (hM : vx_Met l y ws rm Pc Qc XC mc ms free) (hbl : FrameBlind Pc) : vx_Back l R p e below s args y 3 8 (PreOf R mc ms Pc) (PostOf Qc mc ms free) (vx_Post XC mc ms free) := by
  obtain ⟨hrc, hrs, hfr, hlo, hws, hcw, -, hini, -⟩ := cb
  exact vx_back (bytes := bytes) (maxL := maxL) (ret := ret) hM hbl hrc hrs hfr hlo hws hcw (fun a' U hW => word_at hW (Or.inl (by first | rfl | simp [Cond.onTables, Cond.keeps, Cond.steady])) hini)
theorem vx_runV (S : CallFix p m c cc nL s args Ts own) (hM : vx_Met l y ws rm Pc Qc XC mc ms free) (cw : CallW R s args own C index y bytes maxL ret ws rm mc ms n) (hp : PreV s H C b Pc As)
    (hg : g.method = m) (hn : As.length = n) (hsize : g.locals.size = nL) (hstack : g.stack = As.reverse ++ .ref b :: rest) (hW : 2 * g.monitorRoom + (rest.map fun v => v.category).sum ≤ 8) (hdg : decode cc g.pc = .ok (.invokevirtual index, 3)) (hf : cells + mc ≤ R.cells ∧ slots + ms ≤ R.slots) :
    vx_Run p l e R s m args below meth c H locs cells slots mc ms g rest (Qc (Value.ref b :: As).toArray) XC free := by
  have hK : vx_Back l R p e below s args y 3 8 (PreOf R mc ms Pc) (PostOf Qc mc ms free) (vx_Post XC mc ms free) := vx_callBack cw.1 hM hp.1
  obtain ⟨⟨-, -, -, -, -, -, hcode, -, hy, hlen, hl⟩, hin, hse⟩ := cw
  obtain ⟨hx, hb, hml, ho, -⟩ := S
  obtain ⟨-, ⟨cellB, hcB, hoB, hclB⟩, hPc⟩ := hp
  intro T hT X
  rcases vx_callV X hx (C := C) (bytes := bytes) (maxL := maxL) (ret := ret) ho hl hin hse hcode hy hK (by rw [hT]; exact hcB) hoB hclB hg (hsize.trans hml.symm) (argsL := As) (rest := rest) (fun sig h => hn.trans (hlen sig h)) hstack hW (by rw [hb]; exact hdg)
    (fun vm₁ hW₁ => ⟨hf.1, hf.2, hPc (T.setVm vm₁) hT hW₁⟩) with ⟨v, vm₁, ⟨U', l2, c2, s2⟩, hW₁, X', ⟨g', mk, t, L, e1, e2, hq, h1, hL, h2, h3⟩, st⟩ | ⟨q, vm₁, ⟨U', l2, c2, s2⟩, hW₁, X', ⟨g', mk, t, L, E, ce, e1, e2, hq, hce, hcv, hcl, h1, hL, h2, h3⟩, st⟩
  · dsimp only [Pt.U, Pt.locs, Pt.cells, Pt.slots] at X' e1 e2 h1 h2 h3 st
    subst h1; subst h2; subst h3
    exact Or.inl ⟨v, (T.setVm vm₁).calling g' mk (Value.ref b :: As).toArray, t, U', L, hT, X', hL, e1, e2, hq, st⟩
  · dsimp only [Pt.U, Pt.locs, Pt.cells, Pt.slots] at X' e1 e2 h1 h2 h3 st hcl
    subst h1; subst h2; subst h3
    exact Or.inr ⟨q, (T.setVm vm₁).calling g' mk (Value.ref b :: As).toArray, t, U', L, E, ce, hT, X', hL, e1, e2, hq, hce, hcv, vx_cls hW₁ hcl, st⟩
theorem vx_runS (S : CallFix p m c cc nL s args Ts own) (hM : vx_Met l y ws rm Pc Qc XC mc ms free) (cw : CallB R s args own index y bytes maxL ret ws rm mc ms n ∧ (Cond.static y).before args s = true) (hp : PreS s H Pc As)
    (hg : g.method = m) (hn : As.length = n) (hsize : g.locals.size = nL) (hstack : g.stack = As.reverse ++ rest) (hW : 2 * g.monitorRoom + (rest.map fun v => v.category).sum ≤ 8) (hdg : decode cc g.pc = .ok (.invokestatic index, 3)) (hf : cells + mc ≤ R.cells ∧ slots + ms ≤ R.slots) :
    vx_Run p l e R s m args below meth c H locs cells slots mc ms g rest (Qc As.toArray) XC free := by
  have hK : vx_Back l R p e below s args y 3 8 (PreOf R mc ms Pc) (PostOf Qc mc ms free) (vx_Post XC mc ms free) := vx_callBack cw.1 hM hp.1
  obtain ⟨⟨-, -, -, -, -, -, hcode, hini, hy, hlen, hl⟩, hstt⟩ := cw
  obtain ⟨hx, hb, hml, ho, -⟩ := S
  intro T hT X
  rcases vx_callS X hx (bytes := bytes) (maxL := maxL) (ret := ret) ho hl hstt hini hcode hy hK hg (hsize.trans hml.symm) (argsL := As) (rest := rest) (fun sig h => hn.trans (hlen sig h)) hstack hW (by rw [hb]; exact hdg)
    (fun vm₁ hW₁ => ⟨hf.1, hf.2, hp.2 (T.setVm vm₁) hT hW₁⟩) with ⟨v, vm₁, ⟨U', l2, c2, s2⟩, hW₁, X', ⟨g', mk, t, L, e1, e2, hq, h1, hL, h2, h3⟩, st⟩ | ⟨q, vm₁, ⟨U', l2, c2, s2⟩, hW₁, X', ⟨g', mk, t, L, E, ce, e1, e2, hq, hce, hcv, hcl, h1, hL, h2, h3⟩, st⟩
  · dsimp only [Pt.U, Pt.locs, Pt.cells, Pt.slots] at X' e1 e2 h1 h2 h3 st
    subst h1; subst h2; subst h3
    exact Or.inl ⟨v, (T.setVm vm₁).calling g' mk As.toArray, t, U', L, hT, X', hL, e1, e2, hq, st⟩
  · dsimp only [Pt.U, Pt.locs, Pt.cells, Pt.slots] at X' e1 e2 h1 h2 h3 st hcl
    subst h1; subst h2; subst h3
    exact Or.inr ⟨q, (T.setVm vm₁).calling g' mk As.toArray, t, U', L, E, ce, hT, X', hL, e1, e2, hq, hce, hcv, vx_cls hW₁ hcl, st⟩
end Runs
section Rows
variable {p : Program} {l : Launch} {e : Env} {R : Room} {s : State} {m : MethodId} {args : Array Value} {below : List Frame} {meth : Method} {c : Code} {H : Heap} {locs : List Loc} {cells slots : Nat} {Q : State → Prop}
variable {mc ms : Nat} {free : Addr → Prop} {A0 A1 : Nat → Prop} {H0 : Heap} {a : Array Value} {pc : Nat} {ls : Array Slot} {st0 rest : List Value}
theorem vx_keep {st₀ t T' : State} {L : List Loc} (h0 : st₀.heap = H) (e1 : T'.heap = t.heap) (hS : va_S A0 H0 H locs) (hA : ∀ q, q < H.size → A1 q → A0 q) (hf : ∀ q, free q → A0 q) (hL : ∀ q ∈ L, free q.base) (hF : va_F A1 st₀ t) :
    H.size ≤ T'.heap.size ∧ (∀ q : Nat, q < H.size → ¬ A1 q → T'.heap[q]? = H[q]?) ∧ va_S A0 H0 T'.heap (locs ++ L) := by
  obtain ⟨hz, hk⟩ := hF
  rw [h0] at hz hk
  exact ⟨by rw [e1]; exact hz, fun q h1 h2 => by rw [e1]; exact hk q h1 h2,
    ⟨Nat.le_trans hS.1 (by rw [e1]; exact hz), fun q h1 h2 => by rw [e1, hk q (Nat.lt_of_lt_of_le h1 hS.1) (fun z => h2 (hA q (Nat.lt_of_lt_of_le h1 hS.1) z))]; exact hS.2.1 q h1 h2, fun q hq => by
      rcases List.mem_append.mp hq with h | h
      · exact hS.2.2 q h
      · exact hf _ (hL q h)⟩⟩
theorem vx_calli {S SX : Type} {post : Int32 → S → Prop} {px : SX → Prop} {B : S → State → Prop} {BX : String → SX → State → Prop} {AX : Nat → Prop} (hr : vx_Run p l e R s m args below meth c H locs cells slots mc ms (F0 m pc ls st0) rest (va_Qi post B A1 a) (vx_X px BX AX) free) (hS : va_S A0 H0 H locs) (hA : ∀ q, q < H.size → A1 q → A0 q) (hf : ∀ q, free q → A0 q) (hAX : ∀ q, q < H.size → AX q → A0 q)
    (kx : ∀ (E : String) (ce : Cell) (q9 : Addr) (u : SX) (t : State) (H1 : Heap) (locs1 : List Loc), t.heap = H1 → s.vm.Alike t.vm → px u → BX E u t → H.size ≤ H1.size → (∀ q : Nat, q < H.size → ¬ AX q → H1[q]? = H[q]?) → va_S A0 H0 H1 locs1 → H1[q9]? = some ce → ce.vm = .none → s.vm.findClass E = some ce.cls → vx_W p l e R s m args below meth c H1 locs1 (cells + mc) (slots + ms) Q (F0 m pc ls rest) q9)
    (kk : ∀ (r : Int32) (u : S) (t : State) (H1 : Heap) (locs1 : List Loc), t.heap = H1 → s.vm.Alike t.vm → post r u → B u t → H.size ≤ H1.size → (∀ q : Nat, q < H.size → ¬ A1 q → H1[q]? = H[q]?) → va_S A0 H0 H1 locs1 → W p l e R s m args below meth c H1 locs1 (cells + mc) (slots + ms) Q (F0 m (pc + 3) ls (.int r :: rest))) : W p l e R s m args below meth c H locs cells slots Q (F0 m pc ls st0) := by
  intro T hT X
  rcases hr T hT X with ⟨v, st₀, t, T', L, h0, X', hL, e1, e2, ⟨⟨r, u, hv, hp, hb⟩, hF⟩, st⟩ | ⟨q, st₀, t, T', L, E, ce, h0, X', hL, e1, e2, ⟨u, hp, hb, hF⟩, hce, hcv, hcl, st⟩
  · cases hv
    obtain ⟨k1, k2, k3⟩ := vx_keep h0 e1 hS hA hf hL hF
    obtain ⟨t2, a1, b1⟩ := kk r u t T'.heap (locs ++ L) e1.symm (by rw [← e2]; exact X'.warmed.alike) hp hb k1 k2 k3 T' rfl X'
    exact ⟨t2, st t2 a1, b1⟩
  · obtain ⟨k1, k2, k3⟩ := vx_keep h0 e1 hS hAX hf hL hF
    obtain ⟨t2, a1, b1⟩ := kx E ce q u t T'.heap (locs ++ L) e1.symm (by rw [← e2]; exact X'.warmed.alike) hp hb k1 k2 k3 (by rw [e1]; exact hce) hcv hcl T' rfl X'
    exact ⟨t2, st.trans a1, b1⟩
theorem vx_calll {S SX : Type} {post : Int64 → S → Prop} {px : SX → Prop} {B : S → State → Prop} {BX : String → SX → State → Prop} {AX : Nat → Prop} (hr : vx_Run p l e R s m args below meth c H locs cells slots mc ms (F0 m pc ls st0) rest (va_Ql post B A1 a) (vx_X px BX AX) free) (hS : va_S A0 H0 H locs) (hA : ∀ q, q < H.size → A1 q → A0 q) (hf : ∀ q, free q → A0 q) (hAX : ∀ q, q < H.size → AX q → A0 q)
    (kx : ∀ (E : String) (ce : Cell) (q9 : Addr) (u : SX) (t : State) (H1 : Heap) (locs1 : List Loc), t.heap = H1 → s.vm.Alike t.vm → px u → BX E u t → H.size ≤ H1.size → (∀ q : Nat, q < H.size → ¬ AX q → H1[q]? = H[q]?) → va_S A0 H0 H1 locs1 → H1[q9]? = some ce → ce.vm = .none → s.vm.findClass E = some ce.cls → vx_W p l e R s m args below meth c H1 locs1 (cells + mc) (slots + ms) Q (F0 m pc ls rest) q9)
    (kk : ∀ (r : Int64) (u : S) (t : State) (H1 : Heap) (locs1 : List Loc), t.heap = H1 → s.vm.Alike t.vm → post r u → B u t → H.size ≤ H1.size → (∀ q : Nat, q < H.size → ¬ A1 q → H1[q]? = H[q]?) → va_S A0 H0 H1 locs1 → W p l e R s m args below meth c H1 locs1 (cells + mc) (slots + ms) Q (F0 m (pc + 3) ls (.long r :: rest))) : W p l e R s m args below meth c H locs cells slots Q (F0 m pc ls st0) := by
  intro T hT X
  rcases hr T hT X with ⟨v, st₀, t, T', L, h0, X', hL, e1, e2, ⟨⟨r, u, hv, hp, hb⟩, hF⟩, st⟩ | ⟨q, st₀, t, T', L, E, ce, h0, X', hL, e1, e2, ⟨u, hp, hb, hF⟩, hce, hcv, hcl, st⟩
  · cases hv
    obtain ⟨k1, k2, k3⟩ := vx_keep h0 e1 hS hA hf hL hF
    obtain ⟨t2, a1, b1⟩ := kk r u t T'.heap (locs ++ L) e1.symm (by rw [← e2]; exact X'.warmed.alike) hp hb k1 k2 k3 T' rfl X'
    exact ⟨t2, st t2 a1, b1⟩
  · obtain ⟨k1, k2, k3⟩ := vx_keep h0 e1 hS hAX hf hL hF
    obtain ⟨t2, a1, b1⟩ := kx E ce q u t T'.heap (locs ++ L) e1.symm (by rw [← e2]; exact X'.warmed.alike) hp hb k1 k2 k3 (by rw [e1]; exact hce) hcv hcl T' rfl X'
    exact ⟨t2, st.trans a1, b1⟩
theorem vx_callf {S SX : Type} {post : UInt32 → S → Prop} {px : SX → Prop} {B : S → State → Prop} {BX : String → SX → State → Prop} {AX : Nat → Prop} (hr : vx_Run p l e R s m args below meth c H locs cells slots mc ms (F0 m pc ls st0) rest (va_Qf post B A1 a) (vx_X px BX AX) free) (hS : va_S A0 H0 H locs) (hA : ∀ q, q < H.size → A1 q → A0 q) (hf : ∀ q, free q → A0 q) (hAX : ∀ q, q < H.size → AX q → A0 q)
    (kx : ∀ (E : String) (ce : Cell) (q9 : Addr) (u : SX) (t : State) (H1 : Heap) (locs1 : List Loc), t.heap = H1 → s.vm.Alike t.vm → px u → BX E u t → H.size ≤ H1.size → (∀ q : Nat, q < H.size → ¬ AX q → H1[q]? = H[q]?) → va_S A0 H0 H1 locs1 → H1[q9]? = some ce → ce.vm = .none → s.vm.findClass E = some ce.cls → vx_W p l e R s m args below meth c H1 locs1 (cells + mc) (slots + ms) Q (F0 m pc ls rest) q9)
    (kk : ∀ (r : UInt32) (u : S) (t : State) (H1 : Heap) (locs1 : List Loc), t.heap = H1 → s.vm.Alike t.vm → post r u → B u t → H.size ≤ H1.size → (∀ q : Nat, q < H.size → ¬ A1 q → H1[q]? = H[q]?) → va_S A0 H0 H1 locs1 → W p l e R s m args below meth c H1 locs1 (cells + mc) (slots + ms) Q (F0 m (pc + 3) ls (.float r :: rest))) : W p l e R s m args below meth c H locs cells slots Q (F0 m pc ls st0) := by
  intro T hT X
  rcases hr T hT X with ⟨v, st₀, t, T', L, h0, X', hL, e1, e2, ⟨⟨r, u, hv, hp, hb⟩, hF⟩, st⟩ | ⟨q, st₀, t, T', L, E, ce, h0, X', hL, e1, e2, ⟨u, hp, hb, hF⟩, hce, hcv, hcl, st⟩
  · cases hv
    obtain ⟨k1, k2, k3⟩ := vx_keep h0 e1 hS hA hf hL hF
    obtain ⟨t2, a1, b1⟩ := kk r u t T'.heap (locs ++ L) e1.symm (by rw [← e2]; exact X'.warmed.alike) hp hb k1 k2 k3 T' rfl X'
    exact ⟨t2, st t2 a1, b1⟩
  · obtain ⟨k1, k2, k3⟩ := vx_keep h0 e1 hS hAX hf hL hF
    obtain ⟨t2, a1, b1⟩ := kx E ce q u t T'.heap (locs ++ L) e1.symm (by rw [← e2]; exact X'.warmed.alike) hp hb k1 k2 k3 (by rw [e1]; exact hce) hcv hcl T' rfl X'
    exact ⟨t2, st.trans a1, b1⟩
theorem vx_calld {S SX : Type} {post : UInt64 → S → Prop} {px : SX → Prop} {B : S → State → Prop} {BX : String → SX → State → Prop} {AX : Nat → Prop} (hr : vx_Run p l e R s m args below meth c H locs cells slots mc ms (F0 m pc ls st0) rest (va_Qd post B A1 a) (vx_X px BX AX) free) (hS : va_S A0 H0 H locs) (hA : ∀ q, q < H.size → A1 q → A0 q) (hf : ∀ q, free q → A0 q) (hAX : ∀ q, q < H.size → AX q → A0 q)
    (kx : ∀ (E : String) (ce : Cell) (q9 : Addr) (u : SX) (t : State) (H1 : Heap) (locs1 : List Loc), t.heap = H1 → s.vm.Alike t.vm → px u → BX E u t → H.size ≤ H1.size → (∀ q : Nat, q < H.size → ¬ AX q → H1[q]? = H[q]?) → va_S A0 H0 H1 locs1 → H1[q9]? = some ce → ce.vm = .none → s.vm.findClass E = some ce.cls → vx_W p l e R s m args below meth c H1 locs1 (cells + mc) (slots + ms) Q (F0 m pc ls rest) q9)
    (kk : ∀ (r : UInt64) (u : S) (t : State) (H1 : Heap) (locs1 : List Loc), t.heap = H1 → s.vm.Alike t.vm → post r u → B u t → H.size ≤ H1.size → (∀ q : Nat, q < H.size → ¬ A1 q → H1[q]? = H[q]?) → va_S A0 H0 H1 locs1 → W p l e R s m args below meth c H1 locs1 (cells + mc) (slots + ms) Q (F0 m (pc + 3) ls (.double r :: rest))) : W p l e R s m args below meth c H locs cells slots Q (F0 m pc ls st0) := by
  intro T hT X
  rcases hr T hT X with ⟨v, st₀, t, T', L, h0, X', hL, e1, e2, ⟨⟨r, u, hv, hp, hb⟩, hF⟩, st⟩ | ⟨q, st₀, t, T', L, E, ce, h0, X', hL, e1, e2, ⟨u, hp, hb, hF⟩, hce, hcv, hcl, st⟩
  · cases hv
    obtain ⟨k1, k2, k3⟩ := vx_keep h0 e1 hS hA hf hL hF
    obtain ⟨t2, a1, b1⟩ := kk r u t T'.heap (locs ++ L) e1.symm (by rw [← e2]; exact X'.warmed.alike) hp hb k1 k2 k3 T' rfl X'
    exact ⟨t2, st t2 a1, b1⟩
  · obtain ⟨k1, k2, k3⟩ := vx_keep h0 e1 hS hAX hf hL hF
    obtain ⟨t2, a1, b1⟩ := kx E ce q u t T'.heap (locs ++ L) e1.symm (by rw [← e2]; exact X'.warmed.alike) hp hb k1 k2 k3 (by rw [e1]; exact hce) hcv hcl T' rfl X'
    exact ⟨t2, st.trans a1, b1⟩
theorem vx_callv {S SX : Type} {post : S → Prop} {px : SX → Prop} {B : S → State → Prop} {BX : String → SX → State → Prop} {AX : Nat → Prop} (hr : vx_Run p l e R s m args below meth c H locs cells slots mc ms (F0 m pc ls st0) rest (va_Qv post B A1 a) (vx_X px BX AX) free) (hS : va_S A0 H0 H locs) (hA : ∀ q, q < H.size → A1 q → A0 q) (hf : ∀ q, free q → A0 q) (hAX : ∀ q, q < H.size → AX q → A0 q)
    (kx : ∀ (E : String) (ce : Cell) (q9 : Addr) (u : SX) (t : State) (H1 : Heap) (locs1 : List Loc), t.heap = H1 → s.vm.Alike t.vm → px u → BX E u t → H.size ≤ H1.size → (∀ q : Nat, q < H.size → ¬ AX q → H1[q]? = H[q]?) → va_S A0 H0 H1 locs1 → H1[q9]? = some ce → ce.vm = .none → s.vm.findClass E = some ce.cls → vx_W p l e R s m args below meth c H1 locs1 (cells + mc) (slots + ms) Q (F0 m pc ls rest) q9)
    (kk : ∀ (u : S) (t : State) (H1 : Heap) (locs1 : List Loc), t.heap = H1 → s.vm.Alike t.vm → post u → B u t → H.size ≤ H1.size → (∀ q : Nat, q < H.size → ¬ A1 q → H1[q]? = H[q]?) → va_S A0 H0 H1 locs1 → W p l e R s m args below meth c H1 locs1 (cells + mc) (slots + ms) Q (F0 m (pc + 3) ls (rest))) : W p l e R s m args below meth c H locs cells slots Q (F0 m pc ls st0) := by
  intro T hT X
  rcases hr T hT X with ⟨v, st₀, t, T', L, h0, X', hL, e1, e2, ⟨⟨u, hv, hp, hb⟩, hF⟩, st⟩ | ⟨q, st₀, t, T', L, E, ce, h0, X', hL, e1, e2, ⟨u, hp, hb, hF⟩, hce, hcv, hcl, st⟩
  · cases hv
    obtain ⟨k1, k2, k3⟩ := vx_keep h0 e1 hS hA hf hL hF
    obtain ⟨t2, a1, b1⟩ := kk u t T'.heap (locs ++ L) e1.symm (by rw [← e2]; exact X'.warmed.alike) hp hb k1 k2 k3 T' rfl X'
    exact ⟨t2, st t2 a1, b1⟩
  · obtain ⟨k1, k2, k3⟩ := vx_keep h0 e1 hS hAX hf hL hF
    obtain ⟨t2, a1, b1⟩ := kx E ce q u t T'.heap (locs ++ L) e1.symm (by rw [← e2]; exact X'.warmed.alike) hp hb k1 k2 k3 (by rw [e1]; exact hce) hcv hcl T' rfl X'
    exact ⟨t2, st.trans a1, b1⟩
theorem vx_catch {own name : String} {E : String} {ce : Cell} {q : Addr} (hown : s.vm.findClass own = some m.cls) (pre : List ExceptionTableEntry) (x : ExceptionTableEntry) (suf : List ExceptionTableEntry) (hsplit : c.exceptionTable.toList = pre ++ x :: suf)
    (hpass : ∀ z ∈ pre, covers z pc = false ∨ (z.catchType ≠ 0 ∧ ∃ nm : String, (Cond.classLink own z.catchType nm).before args s = true ∧ va_Nc E nm s)) (hx : covers x pc = true) (h0 : x.catchType ≠ 0)
    (hlink : (Cond.classLink own x.catchType name).before args s = true) (hcast : (Cond.castable E name).before args s = true) (hcell : H[q]? = some ce) (hv : ce.vm = .none) (hcl : s.vm.findClass E = some ce.cls)
    (kk : W p l e R s m args below meth c H locs cells slots Q (F0 m x.handlerPc ls [.ref q])) : vx_W p l e R s m args below meth c H locs cells slots Q (F0 m pc ls rest) q := by
  intro T hT X
  have hpl : e.platform.magicAccessors = ({} : Platform).magicAccessors := by rw [X.admits.platform]
  obtain ⟨c3, c4, hc3, hc4, hasg⟩ := Cond.castable_spec hcast
  cases Option.some.inj (hc3.symm.trans hcl)
  obtain ⟨c5, hc5, hcl5⟩ := Cond.classLink_spec hown hlink e.platform hpl
  cases Option.some.inj (hc4.symm.trans hc5)
  obtain ⟨vm', X', st⟩ := X.thenCaughtThrough q (g := F0 m pc ls rest) rfl (Steps.refl _) (by rw [hT]; exact hcell) (by rw [hv]; rfl) (by obtain ⟨k9, h9, -⟩ := Vm.findClass_spec hcl; exact ⟨k9, h9⟩) pre x suf hsplit
    (fun z hz => by
      rcases hpass z hz with h | ⟨hz0, nm, hl1, hn1⟩
      · exact Or.inl h
      · obtain ⟨c6, hc6, hcl6⟩ := Cond.classLink_spec hown hl1 e.platform hpl
        obtain ⟨a8, b8, h1, h2, h3⟩ := hn1
        cases Option.some.inj (h1.symm.trans hcl)
        cases Option.some.inj (h2.symm.trans hc6)
        exact Or.inr ⟨hz0, _, hcl6, h3⟩) hx (Or.inr ⟨h0, c4, hcl5, hasg⟩)
  obtain ⟨t, a1, b1⟩ := kk (T.setVm vm') hT X'
  exact ⟨t, st.trans a1, b1⟩
end Rows
section Ends
variable {p : Program} {l : Launch} {e : Env} {R : Room} {s : State} {m : MethodId} {args : Array Value} {below : List Frame} {meth : Method} {c : Code} {H : Heap} {locs : List Loc} {cells slots : Nat} {Q : State → Prop}
variable {mc ms : Nat} {free : Addr → Prop} {A0 A1 : Nat → Prop} {H0 : Heap} {a : Array Value} {ls : Array Slot} {st0 rest : List Value}
variable {Qc : Array Value → State → Outcome → State → Prop} {XC : String → State → State → Prop}
def vx_MQ (below : List Frame) (Qc : Array Value → State → Outcome → State → Prop) (XC : String → State → State → Prop) (a : Array Value) (s : State) (mc ms : Nat) (free : Addr → Prop) : State → Prop := fun t =>
  ∃ o, t.status = .running ∧ Ended t below o ∧ vx_Q Qc XC mc ms free a s o t
theorem vx_ret {g : JFrame} {mc ms : Nat} (k : W p l e R s m args below meth c H locs cells slots (MQ below Qc args s mc ms free) g) : W p l e R s m args below meth c H locs cells slots (vx_MQ below Qc XC args s mc ms free) g := by
  intro T hT X
  obtain ⟨t, a1, o, b1, b2, b3, b4⟩ := k T hT X
  exact ⟨t, a1, o, b1, b2, Or.inl ⟨b3, b4⟩⟩
theorem vx_widen {g : JFrame} {q : Addr} {k n : Nat} (h1 : cells ≤ k) (h2 : slots ≤ n) (kk : vx_W p l e R s m args below meth c H locs k n Q g q) : vx_W p l e R s m args below meth c H locs cells slots Q g q := fun T hT X => kk T hT (stand_widen X h1 h2)
theorem vx_out {pc : Nat} {E : String} {ce : Cell} {q : Addr} {mc ms : Nat} (hout : ∀ x ∈ c.exceptionTable.toList, covers x pc = false) (hlocks : meth.locks = false) (hcell : H[q]? = some ce) (hv : ce.vm = .none) (hcl : s.vm.findClass E = some ce.cls)
    (hx : ∀ t : State, t.heap = H → s.vm.Alike t.vm → XC E s t) (hf : ∀ z ∈ locs, free z.base) (hc : cells ≤ mc) (hs : slots ≤ ms) :
    vx_W p l e R s m args below meth c H locs cells slots (vx_MQ below Qc XC args s mc ms free) (F0 m pc ls rest) q := by
  intro T hT X
  obtain ⟨st1, hrun, hend, hW, hsm⟩ := X.leaveThrown q (g := F0 m pc ls rest) rfl rfl rfl hout hlocks
  have hcell9 : (T.setFrames (.throwing q :: below)).heap[q]? = some ce := by
    show T.heap[q]? = some ce
    rw [hT]; exact hcell
  exact ⟨_, st1, .threw q, hrun, hend, Or.inr ⟨q, rfl, E, ce, locs, hx _ hT hW.alike, hcell9, hv, hcl, hW, hsm.mono hc hs, hf⟩⟩
theorem vx_frame {U : State} {k n : Nat} (h : s.sameButNew ({ U with vm := s.vm } : State) locs k n) : s.heap.size ≤ U.heap.size ∧ ∀ q : Nat, q < s.heap.size → (∀ z ∈ locs, z.base ≠ q) → U.heap[q]? = s.heap[q]? := by
  obtain ⟨-, h2, -, -, -, h6⟩ := h
  refine ⟨h2, fun q hq hz => ?_⟩
  obtain ⟨c9, e1, e2, e3, e4⟩ := h6 q _ (Array.getElem?_eq_getElem hq)
  have hs : c9.slots = (s.heap[q]).slots := Array.ext_getElem? fun i => e4 i fun hm => hz _ hm rfl
  have h9 : c9 = s.heap[q] := by
    rw [hs] at e2
    exact e2
  have e5 : U.heap[q]? = some c9 := e1
  rw [e5, h9, Array.getElem?_eq_getElem hq]
def vx_no (w : Cond) : Bool := decide (w ≠ .isRef (.static Bundle.tN "UNASSIGNED_STACK" Bundle.steD)) && decide (w ≠ .isRef (.static Bundle.tN "SUPPRESSED_SENTINEL" Bundle.listD)) && decide (w ≠ .laysStatic Bundle.tN "UNASSIGNED_STACK" Bundle.steD) && decide (w ≠ .laysStatic Bundle.tN "SUPPRESSED_SENTINEL" Bundle.listD)
def vx_at0 (own : String) (ic : Nat) (X : String) (names : List String) : List Cond := (Bundle.ownAtoms0 own ic X names).filter vx_no
def vx_atS (own : String) (ic : Nat) (X : String) (names : List String) : List Cond := (Bundle.ownAtoms own ic X names).filter vx_no
def vx_ot (w : Cond) : Bool := w.onTables || goodWord w
theorem vx_ot_at {args a' : Array Value} {s U : State} {w : Cond} (hW : s.WarmedH U.vm) (hvm : s.vm = U.vm) (hg : vx_ot w = true) (h : w.before args s = true) : w.before a' U = true := by
  simp only [vx_ot, Bool.or_eq_true] at hg
  rcases hg with hg | hg
  · exact va_tabs hg hvm h
  · exact word_at hW (good_of_word hg) h
theorem vx_hat {args : Array Value} {s : State} {L B : List Cond} (h1 : ∀ w ∈ L.filter goodWord, w.before args s = true) (h2 : ∀ w ∈ L.filter (fun w => !goodWord w), w ∈ B) (h3 : ∀ w ∈ B, w.before args s = true) : ∀ w ∈ L, w.before args s = true := by
  intro w hw
  by_cases g : goodWord w = true
  · exact h1 w (List.mem_filter.mpr ⟨hw, g⟩)
  · refine h3 w (h2 w (List.mem_filter.mpr ⟨hw, ?_⟩))
    show (!goodWord w) = true
    cases hgw : goodWord w
    · rfl
    · exact absurd hgw g
theorem vx_c {args : Array Value} {s : State} {w : Cond} {B : List Cond} (h : w.before args s = true) (t : ∀ w ∈ B, w.before args s = true) : ∀ w' ∈ w :: B, w'.before args s = true := fun w' h' => (List.mem_cons.mp h').elim (fun e => by rw [e]; exact h) (t w')
theorem vx_n {args : Array Value} {s : State} : ∀ w ∈ ([] : List Cond), w.before args s = true := fun _ h => nomatch h
theorem vx_own {args : Array Value} {s : State} {L : List Cond} (h1 : ∀ w ∈ L.filter vx_no, w.before args s = true)
    (hU : (Cond.isRef (.static Bundle.tN "UNASSIGNED_STACK" Bundle.steD)).before args s = true) (hN : (Cond.isRef (.static Bundle.tN "SUPPRESSED_SENTINEL" Bundle.listD)).before args s = true)
    (lU : (Cond.laysStatic Bundle.tN "UNASSIGNED_STACK" Bundle.steD).before args s = true) (lN : (Cond.laysStatic Bundle.tN "SUPPRESSED_SENTINEL" Bundle.listD).before args s = true) : ∀ w ∈ L, w.before args s = true := by
  intro w hw
  by_cases e1 : w = .isRef (.static Bundle.tN "UNASSIGNED_STACK" Bundle.steD)
  · rw [e1]; exact hU
  · by_cases e2 : w = .isRef (.static Bundle.tN "SUPPRESSED_SENTINEL" Bundle.listD)
    · rw [e2]; exact hN
    · by_cases e3 : w = .laysStatic Bundle.tN "UNASSIGNED_STACK" Bundle.steD
      · rw [e3]; exact lU
      · by_cases e4 : w = .laysStatic Bundle.tN "SUPPRESSED_SENTINEL" Bundle.listD
        · rw [e4]; exact lN
        · exact h1 w (List.mem_filter.mpr ⟨hw, by unfold vx_no; rw [decide_eq_true e1, decide_eq_true e2, decide_eq_true e3, decide_eq_true e4]; rfl⟩)
def vx_L (C n d : String) (A : Nat → Prop) (U : State) (H : Heap) : Prop := ∃ (c : ClassId) (k : Class) (i : Nat) (f : Field) (a : Nat) (cell : Cell), U.vm.findClass C = some c ∧ U.fieldFound? C n d = some (c, k, i, f) ∧ f.isStatic = true ∧ k.statics = some a ∧ H[a]? = some cell ∧ cell.vm.isStatics = true ∧ cell.cls = c ∧ f.slot < cell.slots.size ∧ k.staticTypes[f.slot]? = some f.type ∧ ¬ A a
theorem vx_L.moved {C n d : String} {A : Nat → Prop} {u U : State} {H : Heap} (hvm : u.vm.Alike U.vm) (h : vx_L C n d A u H) : vx_L C n d A U H := by
  obtain ⟨c, k, i, f, a, cell, h1, h2, h3, h4, h5, h6, h7, h8, h9, h10⟩ := h
  obtain ⟨k', hi', he⟩ := State.fieldFound?_setVm hvm h2
  exact ⟨c, k', i, f, a, cell, by rw [hvm.findClass]; exact h1, hi', h3, by rw [he]; exact h4, h5, h6, h7, h8, by rw [he]; exact h9, h10⟩
theorem vx_L.kept {C n d : String} {A : Nat → Prop} {U : State} {H H1 : Heap} (h : vx_L C n d A U H) (hq : ∀ a : Nat, a < H.size → ¬ A a → H1[a]? = H[a]?) : vx_L C n d A U H1 := by
  obtain ⟨c, k, i, f, a, cell, h1, h2, h3, h4, h5, h6, h7, h8, h9, h10⟩ := h
  exact ⟨c, k, i, f, a, cell, h1, h2, h3, h4, by rw [hq a (Array.getElem?_eq_some_iff.mp h5).1 h10]; exact h5, h6, h7, h8, h9, h10⟩
theorem vx_L.narrow {C n d : String} {A B : Nat → Prop} {U : State} {H : Heap} (h : vx_L C n d A U H) (hAB : ∀ q, B q → A q) : vx_L C n d B U H := by
  obtain ⟨c, k, i, f, a, cell, h1, h2, h3, h4, h5, h6, h7, h8, h9, h10⟩ := h
  exact ⟨c, k, i, f, a, cell, h1, h2, h3, h4, h5, h6, h7, h8, h9, fun z => h10 (hAB _ z)⟩
theorem vx_L.word {C n d : String} {A : Nat → Prop} {s : State} {args : Array Value} (h : vx_L C n d A s s.heap) : (Cond.laysStatic C n d).before args s = true := by
  obtain ⟨c, k, i, f, a, cell, h1, h2, h3, h4, h5, h6, h7, h8, h9, -⟩ := h
  show (Cond.laysStatic C n d).holds args s none s [] = true
  exact Cond.laysStatic_of h1 h2 h3 h4 h5 h6 h7 h8 h9
def vx_Zq (C n d : String) (A : Nat → Prop) (U : State) (H : Heap) : Prop := va_Zq C n d A U H ∧ vx_L C n d A U H
theorem vx_Zq.moved {C n d : String} {A : Nat → Prop} {u U : State} {H : Heap} (hvm : u.vm.Alike U.vm) (h : vx_Zq C n d A u H) : vx_Zq C n d A U H := ⟨va_Zq.moved hvm h.1, vx_L.moved hvm h.2⟩
theorem vx_Zq.kept {C n d : String} {A : Nat → Prop} {U : State} {H H1 : Heap} (h : vx_Zq C n d A U H) (hq : ∀ a : Nat, a < H.size → ¬ A a → H1[a]? = H[a]?) : vx_Zq C n d A U H1 := ⟨va_Zq.kept h.1 hq, vx_L.kept h.2 hq⟩
theorem vx_Zq.narrow {C n d : String} {A B : Nat → Prop} {U : State} {H : Heap} (h : vx_Zq C n d A U H) (hAB : ∀ q, B q → A q) : vx_Zq C n d B U H := ⟨va_Zq.narrow h.1 hAB, vx_L.narrow h.2 hAB⟩
theorem vx_Zqof {args : Array Value} {s : State} {C n d : String} {A : Nat → Prop} (hl : (Cond.laysStatic C n d).before args s = true) (hini : (Cond.initialized C).before args s = true) (h : (Cond.isRef (.static C n d)).before args s = true) (hA : ∀ a : Nat, a < s.heap.size → ¬ A a) : vx_Zq C n d A s s.heap := by
  refine ⟨va_Zqof hl hini h hA, ?_⟩
  obtain ⟨c, k, i, f, a, cell, h1, h2, h3, h4, h5, h6, h7, h8, h9⟩ := Cond.laysStatic_spec hl
  exact ⟨c, k, i, f, a, cell, h1, h2, h3, h4, h5, h6, h7, h8, h9, hA a (Array.getElem?_eq_some_iff.mp h5).1⟩
theorem vx_isRef {C n d : String} {v : Value} {A : Nat → Prop} {s : State} {args : Array Value} (h : va_Z C n d v A s s.heap) (hv : v.isRef = true) : (Cond.isRef (.static C n d)).before args s = true := by
  obtain ⟨cf, kf, fi, f, a, cell, h1, h2, h3, h4, h5, h6, h7, -⟩ := h
  have he : (Term.static C n d).eval args s none [] s = some v := by
    simp [Term.eval, State.fieldNamed?, h1, h2, h4, h5, h6, h7]
  simp only [Cond.before, Cond.holds, Cond.value, he]
  cases v <;> simp_all [Value.isRef]
theorem vx_isRefq {C n d : String} {A : Nat → Prop} {s : State} {args : Array Value} (h : va_Zq C n d A s s.heap) : (Cond.isRef (.static C n d)).before args s = true := by
  rcases h with h | ⟨t, h⟩
  · exact vx_isRef h rfl
  · exact vx_isRef h rfl
theorem vx_rebase {T : State} (X : Stand p l e R s m args below meth c T locs cells slots) {R' : Room} (hf : R'.frames ≤ R.frames) (hl : R'.locals ≤ R.locals) (hc : cells + R'.cells ≤ R.cells) (hs : slots + R'.slots ≤ R.slots) :
    Stand p l e R' ((T.setVm s.vm).setFrames (.invoking m args :: below)) m args below meth c T [] 0 0 := by
  have htop : (T.setVm s.vm).topJava?.isSome := X.here.top
  have hF : ((T.setVm s.vm).setFrames (.invoking m args :: below)).frames = .invoking m args :: below := State.frames_setFrames _ (State.cur_lt_of_top htop)
  obtain ⟨g₀, hg0⟩ := Option.isSome_iff_exists.mp htop
  obtain ⟨r, hr⟩ := State.topJava?_eq_some.mp hg0
  have hl9 : e.platform.stackLimits (T.setVm s.vm).me = e.platform.stackLimits s.me := X.limits
  have hb9 : (T.setVm s.vm).me.stackBytes = s.me.stackBytes := X.bytes
  refine ⟨X.admits, X.cas, X.clock, hF, ?_, X.hears, X.method, X.code, X.here, X.tail, X.warmed, ?_, ?_, ?_⟩
  · have h := X.room
    have hU : ((T.setVm s.vm).setFrames (.invoking m args :: below)).localsInUse = s.localsInUse := by
      rw [State.localsInUse_invoking hF (meth := meth) (c := c) X.method X.code, State.localsInUse_invoking X.frames X.method X.code]
    simp only [State.hasRoom, Bool.and_eq_true, decide_eq_true_eq] at h ⊢
    obtain ⟨⟨⟨⟨h1, h2, h3, h4, h5, h6⟩, h7⟩, h8⟩, h9⟩ := h
    rw [X.frames, List.length_cons] at h2 h3
    have q1 := X.heapSize
    have q2 := X.used
    simp only [hF, hU, List.length_cons, State.stackLimits_setFrames, State.stackBytes_setFrames, hl9, hb9]
    refine ⟨⟨⟨⟨by omega, by omega, by omega, by omega, by omega, h6⟩, ?_⟩, ?_⟩, X.book⟩
    · show T.heap.size + R'.cells ≤ e.platform.maxCells
      omega
    · show T.slotsUsed + R'.slots ≤ e.platform.maxSlots
      omega
  · rw [State.stackLimits_setFrames]; rfl
  · rw [State.stackBytes_setFrames]; rfl
  · refine ⟨?_, Nat.le_refl _, Nat.le_refl _, ?_, ?_, fun a c9 h9 => ⟨c9, h9, rfl, rfl, fun _ _ => rfl⟩⟩
    · obtain ⟨t, ht, -⟩ := State.frames_cons hr
      show T.setVm s.vm = { ((T.setVm s.vm).setFrames (.invoking m args :: below)).setFrames (T.setVm s.vm).frames with heap := T.heap, slotsUsed := T.slotsUsed }
      rw [State.setFrames_setFrames, State.setFrames_self ht]
      rfl
    · show T.slotsUsed = T.slotsUsed + ((T.heap.toList.drop T.heap.size).map (·.slots.size)).sum
      rw [List.drop_eq_nil_of_le (Nat.le_of_eq Array.length_toList)]
      rfl
    · show ((T.heap.toList.drop T.heap.size).map (·.slots.size)).sum ≤ 0
      rw [List.drop_eq_nil_of_le (Nat.le_of_eq Array.length_toList)]
      exact Nat.le_refl _
theorem vx_throw0 {cc : ByteArray} {pc : Nat} (hexec : p.tables.exec = Jvm.exec) (hb : c.code = cc) (hl : l.stackTraces = false) {own cls : String} {names : List String} {ik ic mc ms : Nat} {A : Nat → Prop}
    (hown : s.vm.findClass own = some m.cls) (hcls : Bundle.fit cls = true) (hnames : ∀ n ∈ names, Bundle.fit n = true)
    (hk : (Cond.classLink own ik cls).before args s = true) (hini : (Cond.initialized cls).before args s = true) (hat : ∀ w ∈ vx_at0 own ic cls names, w.before args s = true)
    (hgood : ∀ w ∈ Cond.classLink own ik cls :: Cond.initialized cls :: vx_at0 own ic cls names, vx_ot w = true)
    (hU : vx_Zq Bundle.tN "UNASSIGNED_STACK" Bundle.steD A s s.heap) (hN : vx_Zq Bundle.tN "SUPPRESSED_SENTINEL" Bundle.listD A s s.heap) (hS : va_S A s.heap H locs) (hsize : ls.size = c.maxLocals)
    (d0 : decode cc pc = .ok (.new ik, 3)) (d3 : decode cc (pc + 3) = .ok (.dup, 1)) (d4 : decode cc (pc + 4) = .ok (.invokespecial ic, 3)) (d7 : decode cc (pc + 7) = .ok (.athrow, 1))
    (hout : ∀ x ∈ c.exceptionTable.toList, covers x (pc + 7) = false)
    (hRframes : names.length + 3 < R.frames) (hRlocals : (rest.map fun v => v.category).sum + (13 * (names.length + 1) + 42) ≤ R.locals) (hRcells : cells + 1 ≤ R.cells) (hRslots : slots + 6 ≤ R.slots) (hlocks : meth.locks = false)
    (hx : ∀ t : State, s.vm.Alike t.vm → H.size ≤ t.heap.size → (∀ q : Nat, q < H.size → t.heap[q]? = H[q]?) → XC cls s t)
    (hf : ∀ z ∈ locs, free z.base) (hc : cells + 1 ≤ mc) (hs : slots + 6 ≤ ms) :
    W p l e R s m args below meth c H locs cells slots (vx_MQ below Qc XC args s mc ms free) (F0 m pc ls rest) := by
  intro T hT X
  have htr : e.platform.stackTraces = false := (show e.platform.stackTraces = l.stackTraces by rw [X.admits.platform]).trans hl
  have Y := vx_rebase X (R' := { frames := R.frames, locals := R.locals, cells := 1, slots := 6 }) (Nat.le_refl _) (Nat.le_refl _) hRcells hRslots
  obtain ⟨s', hA⟩ : ∃ z, z = (T.setVm s.vm).setFrames (.invoking m args :: below) := ⟨_, rfl⟩
  rw [← hA] at Y
  have hvm : s'.vm = s.vm := by rw [hA]; rfl
  have hhp : s'.heap = H := by rw [hA]; exact hT
  have hW0 : s.WarmedH s'.vm := by rw [hvm]; exact State.WarmedH.refl s
  have hat' : ∀ w ∈ vx_at0 own ic cls names, w.before args s' = true := fun w hw => vx_ot_at hW0 hvm.symm (hgood w (List.mem_cons_of_mem _ (List.mem_cons_of_mem _ hw))) (hat w hw)
  have hk' : (Cond.classLink own ik cls).before args s' = true := vx_ot_at hW0 hvm.symm (hgood _ List.mem_cons_self) hk
  have hini' : (Cond.initialized cls).before args s' = true := vx_ot_at hW0 hvm.symm (hgood _ (List.mem_cons_of_mem _ List.mem_cons_self)) hini
  have hU' : vx_Zq Bundle.tN "UNASSIGNED_STACK" Bundle.steD A s' s'.heap := by rw [hhp]; exact vx_Zq.moved hW0.alike (hU.kept hS.2.1)
  have hN' : vx_Zq Bundle.tN "SUPPRESSED_SENTINEL" Bundle.listD A s' s'.heap := by rw [hhp]; exact vx_Zq.moved hW0.alike (hN.kept hS.2.1)
  have h : ∀ w ∈ Bundle.ownAtoms0 own ic cls names, w.before args s' = true := vx_own hat' (vx_isRefq hU'.1) (vx_isRefq hN'.1) hU'.2.word hN'.2.word
  have hown' : s'.vm.findClass own = some m.cls := by rw [hvm]; exact hown
  have hins : (Cond.instantiable cls 6).before args s' = true := h _ (by simp [Bundle.ownAtoms0])
  obtain ⟨vm₁, cX, kX, hfX, hkX, -, -, X₁, st1⟩ := Y.newCold hexec (own := own) (C := cls) (index := ik) (n := 6) hown' hk' hins hini'
    (g := F0 m pc ls rest) rfl (by rw [hb]; exact d0) (Nat.le_refl _) (Nat.le_refl _)
  generalize hT1 : (T.setVm vm₁).pushCell { cls := cX, slots := kX.instanceTypes.map defaultValue, vm := .none } = T1 at X₁ st1
  have hcat : (Value.ref T.heap.size).category = 1 := rfl
  have hcellA : T1.heap[T.heap.size]? = some (freshCell cX kX) := by rw [← hT1]; exact State.heap_pushCell_size _ _
  have d3' : decode c.code (pc + 3) = .ok (.dup, 1) := by rw [hb]; exact d3
  obtain ⟨U, hsteps, hrun, hend, hW, hsame, ce, hce, hO⟩ := X₁.ctorThrow0 hexec htr (own := own) (cls := cls) (names := names) (ic := ic) hown' hcls hnames h (fun x hx => nomatch hx) hfX hkX hcellA (by rw [hhp, hT]; exact Nat.le_refl _)
    (g := { method := m, pc := pc + 4, locals := ls, stack := .ref T.heap.size :: .ref T.heap.size :: rest, locked := none }) rfl hsize rfl rfl (rest := rest) rfl
    (by rw [hb]; exact d4) (by rw [hb]; exact d7) hout hRframes (by simp only [List.map_cons, List.sum_cons, hcat]; omega) hlocks
  obtain ⟨f1, f2⟩ := vx_frame hsame
  rw [hhp] at f1 f2
  have hWs : s.WarmedH U.vm := State.WarmedH.trans hW0 hW
  have hcl : s.vm.findClass cls = some ce.cls := by
    have h9 := hO.cls
    rw [hvm] at h9
    exact h9
  have hall : s.sameButNew ({ U with vm := s.vm } : State) locs mc ms := by
    subst hA
    obtain ⟨e1, e2⟩ := hsame
    rw [State.setFrames_setFrames] at e1
    have h2 : (T.setVm s.vm).sameButNew ({ U with vm := s.vm } : State) [] (0 + 1) (0 + 6) := ⟨e1, e2⟩
    have h3 := X.same.trans h2
    rw [List.append_nil] at h3
    exact h3.mono hc hs
  refine ⟨U, ?_, .threw T.heap.size, hrun, hend, Or.inr ⟨T.heap.size, rfl, cls, ce, locs, hx U hWs.alike f1 (fun q hq => f2 q hq (fun z hz => nomatch hz)), hce, hO.vm, hcl, hWs, hall, hf⟩⟩
  refine st1 _ ?_
  show Steps p.tables e below (T1.setTop { method := m, pc := pc + 3, locals := ls, stack := .ref T.heap.size :: rest, locked := none }) _
  jvm_step X₁.here [X₁.here.top, hexec, d3', Value.category]
  exact hsteps
theorem vx_throwS {cc : ByteArray} {pc : Nat} (hexec : p.tables.exec = Jvm.exec) (hb : c.code = cc) (hl : l.stackTraces = false) {own cls text : String} {names : List String} {ik is ic mc ms sa : Nat} {A : Nat → Prop}
    (hown : s.vm.findClass own = some m.cls) (hcls : Bundle.fit cls = true) (hnames : ∀ n ∈ names, Bundle.fit n = true)
    (hk : (Cond.classLink own ik cls).before args s = true) (hini : (Cond.initialized cls).before args s = true) (hstr : vk_R own is text sa s) (hat : ∀ w ∈ vx_atS own ic cls names, w.before args s = true)
    (hgood : ∀ w ∈ Cond.classLink own ik cls :: Cond.initialized cls :: vx_atS own ic cls names, vx_ot w = true)
    (hU : vx_Zq Bundle.tN "UNASSIGNED_STACK" Bundle.steD A s s.heap) (hN : vx_Zq Bundle.tN "SUPPRESSED_SENTINEL" Bundle.listD A s s.heap) (hS : va_S A s.heap H locs) (hsize : ls.size = c.maxLocals)
    (d0 : decode cc pc = .ok (.new ik, 3)) (d3 : decode cc (pc + 3) = .ok (.dup, 1)) (d4 : decode cc (pc + 4) = .ok (.ldc is, 2)) (d6 : decode cc (pc + 6) = .ok (.invokespecial ic, 3)) (d9 : decode cc (pc + 9) = .ok (.athrow, 1))
    (hout : ∀ x ∈ c.exceptionTable.toList, covers x (pc + 9) = false)
    (hRframes : names.length + 3 < R.frames) (hRlocals : (rest.map fun v => v.category).sum + (13 * (names.length + 1) + 43) ≤ R.locals) (hRcells : cells + 1 ≤ R.cells) (hRslots : slots + 6 ≤ R.slots) (hlocks : meth.locks = false)
    (hx : ∀ t : State, s.vm.Alike t.vm → H.size ≤ t.heap.size → (∀ q : Nat, q < H.size → t.heap[q]? = H[q]?) → XC cls s t)
    (hf : ∀ z ∈ locs, free z.base) (hc : cells + 1 ≤ mc) (hs : slots + 6 ≤ ms) :
    W p l e R s m args below meth c H locs cells slots (vx_MQ below Qc XC args s mc ms free) (F0 m pc ls rest) := by
  intro T hT X
  have htr : e.platform.stackTraces = false := (show e.platform.stackTraces = l.stackTraces by rw [X.admits.platform]).trans hl
  have Y := vx_rebase X (R' := { frames := R.frames, locals := R.locals, cells := 1, slots := 6 }) (Nat.le_refl _) (Nat.le_refl _) hRcells hRslots
  obtain ⟨s', hA⟩ : ∃ z, z = (T.setVm s.vm).setFrames (.invoking m args :: below) := ⟨_, rfl⟩
  rw [← hA] at Y
  have hvm : s'.vm = s.vm := by rw [hA]; rfl
  have hhp : s'.heap = H := by rw [hA]; exact hT
  have hW0 : s.WarmedH s'.vm := by rw [hvm]; exact State.WarmedH.refl s
  have hat' : ∀ w ∈ vx_atS own ic cls names, w.before args s' = true := fun w hw => vx_ot_at hW0 hvm.symm (hgood w (List.mem_cons_of_mem _ (List.mem_cons_of_mem _ hw))) (hat w hw)
  have hk' : (Cond.classLink own ik cls).before args s' = true := vx_ot_at hW0 hvm.symm (hgood _ List.mem_cons_self) hk
  have hini' : (Cond.initialized cls).before args s' = true := vx_ot_at hW0 hvm.symm (hgood _ (List.mem_cons_of_mem _ List.mem_cons_self)) hini
  have hU' : vx_Zq Bundle.tN "UNASSIGNED_STACK" Bundle.steD A s' s'.heap := by rw [hhp]; exact vx_Zq.moved hW0.alike (hU.kept hS.2.1)
  have hN' : vx_Zq Bundle.tN "SUPPRESSED_SENTINEL" Bundle.listD A s' s'.heap := by rw [hhp]; exact vx_Zq.moved hW0.alike (hN.kept hS.2.1)
  have h : ∀ w ∈ Bundle.ownAtoms own ic cls names, w.before args s' = true := vx_own hat' (vx_isRefq hU'.1) (vx_isRefq hN'.1) hU'.2.word hN'.2.word
  have hown' : s'.vm.findClass own = some m.cls := by rw [hvm]; exact hown
  have hins : (Cond.instantiable cls 6).before args s' = true := h _ (by simp [Bundle.ownAtoms])
  obtain ⟨vm₁, cX, kX, hfX, hkX, -, -, X₁, st1⟩ := Y.newCold hexec (own := own) (C := cls) (index := ik) (n := 6) hown' hk' hins hini'
    (g := F0 m pc ls rest) rfl (by rw [hb]; exact d0) (Nat.le_refl _) (Nat.le_refl _)
  generalize hT1 : (T.setVm vm₁).pushCell { cls := cX, slots := kX.instanceTypes.map defaultValue, vm := .none } = T1 at X₁ st1
  have hcat : (Value.ref T.heap.size).category = 1 := rfl
  have hcellA : T1.heap[T.heap.size]? = some (freshCell cX kX) := by rw [← hT1]; exact State.heap_pushCell_size _ _
  have d3' : decode c.code (pc + 3) = .ok (.dup, 1) := by rw [hb]; exact d3
  have d4' : decode c.code (pc + 4) = .ok (.ldc is, 2) := by rw [hb]; exact d4
  have hstr' : vk_R own is text sa s' := vk_R.warm hW0 hstr
  obtain ⟨U, hsteps, hrun, hend, hW, hsame, ce, hce, hO⟩ := X₁.ctorThrowS hexec htr (own := own) (cls := cls) (names := names) (ic := ic) hown' hcls hnames h (fun x hx => nomatch hx) hfX hkX hcellA (by rw [hhp, hT]; exact Nat.le_refl _) (msg := .ref sa) rfl
    (g := { method := m, pc := pc + 6, locals := ls, stack := .ref sa :: .ref T.heap.size :: .ref T.heap.size :: rest, locked := none }) rfl hsize rfl rfl (rest := rest) rfl
    (by rw [hb]; exact d6) (by rw [hb]; exact d9) hout hRframes (by simp only [List.map_cons, List.sum_cons, hcat]; omega) hlocks
  obtain ⟨f1, f2⟩ := vx_frame hsame
  rw [hhp] at f1 f2
  have hWs : s.WarmedH U.vm := State.WarmedH.trans hW0 hW
  have hcl : s.vm.findClass cls = some ce.cls := by
    have h9 := hO.cls
    rw [hvm] at h9
    exact h9
  have hall : s.sameButNew ({ U with vm := s.vm } : State) locs mc ms := by
    subst hA
    obtain ⟨e1, e2⟩ := hsame
    rw [State.setFrames_setFrames] at e1
    have h2 : (T.setVm s.vm).sameButNew ({ U with vm := s.vm } : State) [] (0 + 1) (0 + 6) := ⟨e1, e2⟩
    have h3 := X.same.trans h2
    rw [List.append_nil] at h3
    exact h3.mono hc hs
  refine ⟨U, ?_, .threw T.heap.size, hrun, hend, Or.inr ⟨T.heap.size, rfl, cls, ce, locs, hx U hWs.alike f1 (fun q hq => f2 q hq (fun z hz => nomatch hz)), hce, hO.vm, hcl, hWs, hall, hf⟩⟩
  refine st1 _ ?_
  show Steps p.tables e below (T1.setTop { method := m, pc := pc + 3, locals := ls, stack := .ref T.heap.size :: rest, locked := none }) _
  jvm_step X₁.here [X₁.here.top, hexec, d3', Value.category]
  exact X₁.ldcString hexec (own := own) (text := text) (index := is) (a := sa) hown' hstr'.1 hstr'.2
    (g := { method := m, pc := pc + 4, locals := ls, stack := .ref T.heap.size :: .ref T.heap.size :: rest, locked := none }) rfl d4' _ hsteps
theorem vx_throwSW {cc : ByteArray} {pc : Nat} (hexec : p.tables.exec = Jvm.exec) (hb : c.code = cc) (hl : l.stackTraces = false) {own cls text : String} {names : List String} {ik is ic mc ms sa : Nat} {A : Nat → Prop}
    (hown : s.vm.findClass own = some m.cls) (hcls : Bundle.fit cls = true) (hnames : ∀ n ∈ names, Bundle.fit n = true)
    (hk : (Cond.classLink own ik cls).before args s = true) (hini : (Cond.initialized cls).before args s = true) (hstr : vk_R own is text sa s) (hat : ∀ w ∈ vx_atS own ic cls names, w.before args s = true)
    (hgood : ∀ w ∈ Cond.classLink own ik cls :: Cond.initialized cls :: vx_atS own ic cls names, vx_ot w = true)
    (hU : vx_Zq Bundle.tN "UNASSIGNED_STACK" Bundle.steD A s s.heap) (hN : vx_Zq Bundle.tN "SUPPRESSED_SENTINEL" Bundle.listD A s s.heap) (hS : va_S A s.heap H locs) (hsize : ls.size = c.maxLocals)
    (d0 : decode cc pc = .ok (.new ik, 3)) (d3 : decode cc (pc + 3) = .ok (.dup, 1)) (d4 : decode cc (pc + 4) = .ok (.ldc_w is, 3)) (d7 : decode cc (pc + 7) = .ok (.invokespecial ic, 3)) (d10 : decode cc (pc + 10) = .ok (.athrow, 1))
    (hout : ∀ x ∈ c.exceptionTable.toList, covers x (pc + 10) = false)
    (hRframes : names.length + 3 < R.frames) (hRlocals : (rest.map fun v => v.category).sum + (13 * (names.length + 1) + 43) ≤ R.locals) (hRcells : cells + 1 ≤ R.cells) (hRslots : slots + 6 ≤ R.slots) (hlocks : meth.locks = false)
    (hx : ∀ t : State, s.vm.Alike t.vm → H.size ≤ t.heap.size → (∀ q : Nat, q < H.size → t.heap[q]? = H[q]?) → XC cls s t)
    (hf : ∀ z ∈ locs, free z.base) (hc : cells + 1 ≤ mc) (hs : slots + 6 ≤ ms) :
    W p l e R s m args below meth c H locs cells slots (vx_MQ below Qc XC args s mc ms free) (F0 m pc ls rest) := by
  intro T hT X
  have htr : e.platform.stackTraces = false := (show e.platform.stackTraces = l.stackTraces by rw [X.admits.platform]).trans hl
  have Y := vx_rebase X (R' := { frames := R.frames, locals := R.locals, cells := 1, slots := 6 }) (Nat.le_refl _) (Nat.le_refl _) hRcells hRslots
  obtain ⟨s', hA⟩ : ∃ z, z = (T.setVm s.vm).setFrames (.invoking m args :: below) := ⟨_, rfl⟩
  rw [← hA] at Y
  have hvm : s'.vm = s.vm := by rw [hA]; rfl
  have hhp : s'.heap = H := by rw [hA]; exact hT
  have hW0 : s.WarmedH s'.vm := by rw [hvm]; exact State.WarmedH.refl s
  have hat' : ∀ w ∈ vx_atS own ic cls names, w.before args s' = true := fun w hw => vx_ot_at hW0 hvm.symm (hgood w (List.mem_cons_of_mem _ (List.mem_cons_of_mem _ hw))) (hat w hw)
  have hk' : (Cond.classLink own ik cls).before args s' = true := vx_ot_at hW0 hvm.symm (hgood _ List.mem_cons_self) hk
  have hini' : (Cond.initialized cls).before args s' = true := vx_ot_at hW0 hvm.symm (hgood _ (List.mem_cons_of_mem _ List.mem_cons_self)) hini
  have hU' : vx_Zq Bundle.tN "UNASSIGNED_STACK" Bundle.steD A s' s'.heap := by rw [hhp]; exact vx_Zq.moved hW0.alike (hU.kept hS.2.1)
  have hN' : vx_Zq Bundle.tN "SUPPRESSED_SENTINEL" Bundle.listD A s' s'.heap := by rw [hhp]; exact vx_Zq.moved hW0.alike (hN.kept hS.2.1)
  have h : ∀ w ∈ Bundle.ownAtoms own ic cls names, w.before args s' = true := vx_own hat' (vx_isRefq hU'.1) (vx_isRefq hN'.1) hU'.2.word hN'.2.word
  have hown' : s'.vm.findClass own = some m.cls := by rw [hvm]; exact hown
  have hins : (Cond.instantiable cls 6).before args s' = true := h _ (by simp [Bundle.ownAtoms])
  obtain ⟨vm₁, cX, kX, hfX, hkX, -, -, X₁, st1⟩ := Y.newCold hexec (own := own) (C := cls) (index := ik) (n := 6) hown' hk' hins hini'
    (g := F0 m pc ls rest) rfl (by rw [hb]; exact d0) (Nat.le_refl _) (Nat.le_refl _)
  generalize hT1 : (T.setVm vm₁).pushCell { cls := cX, slots := kX.instanceTypes.map defaultValue, vm := .none } = T1 at X₁ st1
  have hcat : (Value.ref T.heap.size).category = 1 := rfl
  have hcellA : T1.heap[T.heap.size]? = some (freshCell cX kX) := by rw [← hT1]; exact State.heap_pushCell_size _ _
  have d3' : decode c.code (pc + 3) = .ok (.dup, 1) := by rw [hb]; exact d3
  have d4' : decode c.code (pc + 4) = .ok (.ldc_w is, 3) := by rw [hb]; exact d4
  have hstr' : vk_R own is text sa s' := vk_R.warm hW0 hstr
  obtain ⟨U, hsteps, hrun, hend, hW, hsame, ce, hce, hO⟩ := X₁.ctorThrowS hexec htr (own := own) (cls := cls) (names := names) (ic := ic) hown' hcls hnames h (fun x hx => nomatch hx) hfX hkX hcellA (by rw [hhp, hT]; exact Nat.le_refl _) (msg := .ref sa) rfl
    (g := { method := m, pc := pc + 7, locals := ls, stack := .ref sa :: .ref T.heap.size :: .ref T.heap.size :: rest, locked := none }) rfl hsize rfl rfl (rest := rest) rfl
    (by rw [hb]; exact d7) (by rw [hb]; exact d10) hout hRframes (by simp only [List.map_cons, List.sum_cons, hcat]; omega) hlocks
  obtain ⟨f1, f2⟩ := vx_frame hsame
  rw [hhp] at f1 f2
  have hWs : s.WarmedH U.vm := State.WarmedH.trans hW0 hW
  have hcl : s.vm.findClass cls = some ce.cls := by
    have h9 := hO.cls
    rw [hvm] at h9
    exact h9
  have hall : s.sameButNew ({ U with vm := s.vm } : State) locs mc ms := by
    subst hA
    obtain ⟨e1, e2⟩ := hsame
    rw [State.setFrames_setFrames] at e1
    have h2 : (T.setVm s.vm).sameButNew ({ U with vm := s.vm } : State) [] (0 + 1) (0 + 6) := ⟨e1, e2⟩
    have h3 := X.same.trans h2
    rw [List.append_nil] at h3
    exact h3.mono hc hs
  refine ⟨U, ?_, .threw T.heap.size, hrun, hend, Or.inr ⟨T.heap.size, rfl, cls, ce, locs, hx U hWs.alike f1 (fun q hq => f2 q hq (fun z hz => nomatch hz)), hce, hO.vm, hcl, hWs, hall, hf⟩⟩
  refine st1 _ ?_
  show Steps p.tables e below (T1.setTop { method := m, pc := pc + 3, locals := ls, stack := .ref T.heap.size :: rest, locked := none }) _
  jvm_step X₁.here [X₁.here.top, hexec, d3', Value.category]
  exact X₁.ldcStringW hexec (own := own) (text := text) (index := is) (a := sa) hown' hstr'.1 hstr'.2
    (g := { method := m, pc := pc + 4, locals := ls, stack := .ref T.heap.size :: .ref T.heap.size :: rest, locked := none }) rfl d4' _ hsteps
end Ends
section Bodies
variable {l : Launch}
theorem vx_ofW {y : MethodName} {ws ws' : List Cond} {rm : Room} {Pc : Array Value → State → Prop} {Qc : Array Value → State → Outcome → State → Prop} {XC : String → State → State → Prop} {mc ms : Nat} {free : Addr → Prop} {cc : ByteArray} {maxL : Nat} {ret : Option FieldType}
    (hy : plainName y.cls = true) (hw : ws = Cond.code y cc maxL ret :: ws')
    (body : ∀ p e s m args below meth c s₁, BodyLoose p l y (headSpec ws rm) cc maxL ret e s m args below meth c s₁ → c.maxLocals = maxL → (∀ x ∈ c.exceptionTable.toList, False) → Pc args s →
      W p l e (headSpec ws rm).room s m args below meth c s.heap [] 0 0 (vx_MQ below Qc XC args s mc ms free) (entryFrame m args maxL)) : vx_Met l y ws rm Pc Qc XC mc ms free := by
  refine MetFree.of_bodyS (code := cc) (maxLocals := maxL) (ret := ret) hy ?_ ?_
  · intro args s m h hn
    obtain ⟨meth, c, h1, h2, h3, h4, h5, h6, -, -⟩ := Cond.code_spec hn (atoms_spec (ws := ws) h _ (by rw [hw]; exact List.mem_cons_self))
    exact ⟨meth, c, h1, h2, h3, h4, h5, h6⟩
  · intro p e s m args below meth c s₁ B hml hP _
    have hh0 : s₁.heap = s.heap := by rw [B.state]; rfl
    have ht : ∀ x ∈ c.exceptionTable.toList, False := by
      obtain ⟨meth9, c9, h1, h2, -, -, -, -, h7, -⟩ := Cond.code_spec B.named (atoms_spec (ws := ws) B.pre _ (by rw [hw]; exact List.mem_cons_self))
      cases Option.some.inj (h1.symm.trans B.method)
      cases Option.some.inj (h2.symm.trans (Stand.of_body B).code)
      intro x hx
      rw [Array.isEmpty_iff.mp h7] at hx
      cases hx
    obtain ⟨t, a1, o, b1, b2, b3⟩ := body p e s m args below meth c s₁ B hml ht hP s₁ hh0 (Stand.of_body B)
    exact ⟨t, o, a1, b1, b2, b3⟩
theorem vx_table {p : Program} {x y : MethodName} {S : Spec} {cc bytes : ByteArray} {maxL maxL' : Nat} {ret ret' : Option FieldType} {e : Env} {s s₁ : State} {m : MethodId} {args : Array Value} {below : List Frame} {meth : Method} {c : Code} {hh : List (Nat × Nat × Nat × Nat)}
    (B : BodyLoose p l y S cc maxL ret e s m args below meth c s₁) (h : (Cond.codeWith y bytes maxL' ret' hh).before args s = true) : c.exceptionTable.toList = tableOf hh := by
  obtain ⟨m9, meth9, c9, hn9, h1, h2, -, -, h6, -⟩ := Cond.codeWith_spec h
  cases Option.some.inj (hn9.symm.trans B.named)
  cases Option.some.inj (h1.symm.trans B.method)
  cases Option.some.inj (h2.symm.trans (Stand.of_body B).code)
  rw [← h6, table_eq]
end Bodies
end VXA
section VXS
variable {p : Program} {l : Launch} {e : Env} {R : Room} {s : State} {m : MethodId} {args : Array Value} {below : List Frame} {meth : Method} {c : Code} {T : State} {H : Heap} {locs : List Loc} {cells slots : Nat}
abbrev vx_CSW (R : Room) (s : State) (args : Array Value) (own : String) (index : Nat) (y : MethodName) (bytes : ByteArray) (maxL : Nat) (ret : Option FieldType) (hh : List (Nat × Nat × Nat × Nat)) (ws : List Cond) (rm : Room) (mc ms n : Nat) : Prop :=
  (rm.cells = mc ∧ rm.slots = ms ∧ rm.frames + 1 ≤ R.frames ∧ 8 + (maxL + 11) + rm.locals ≤ R.locals ∧ (∀ w ∈ ws, ∀ (a' : Array Value) (U : State), s.WarmedH U.vm → w.before a' U = true) ∧ Cond.codeWith y bytes maxL ret hh ∈ ws) ∧
  (Cond.codeWith y bytes maxL ret hh).before args s = true ∧ (Cond.initialized y.cls).before args s = true ∧ (y.cls ≠ "java/lang/invoke/MethodHandle" ∧ y.cls ≠ "java/lang/invoke/VarHandle") ∧
  (∀ sig, parseMethodDescriptor y.desc = some sig → n = sig.parameters.length) ∧ (Cond.methodLink own index y).before args s = true ∧ (Cond.static y).before args s = true
theorem vx_cwSW {own : String} {index maxL mc ms : Nat} {y : MethodName} {bytes : ByteArray} {ret : Option FieldType} {hh : List (Nat × Nat × Nat × Nat)} {Ts ws ws' : List Cond} {rm : Room} (n : Nat) (ht : ∀ w ∈ Ts, w.before args s = true) (hT : GoodIn Ts (va_wsS own index y ws)) (hw : ws = Cond.codeWith y bytes maxL ret hh :: ws') (hrc : rm.cells = mc) (hrs : rm.slots = ms)
    (hd : y.cls ≠ "java/lang/invoke/MethodHandle" ∧ y.cls ≠ "java/lang/invoke/VarHandle" ∧ (parseMethodDescriptor y.desc).map (fun d => d.parameters.length) = some n) (hR : rm.frames + 1 ≤ R.frames ∧ 8 + (maxL + 11) + rm.locals ≤ R.locals) :
    vx_CSW R s args own index y bytes maxL ret hh ws rm mc ms n := by
  have ok : ∀ w ∈ va_wsS own index y ws, w.before args s = true := fun w h => ht w (hT w h).1
  have hG : GoodIn Ts ws := fun w h => hT w (by unfold va_wsS; exact List.mem_append_right _ h)
  have hc : Cond.codeWith y bytes maxL ret hh ∈ ws := by rw [hw]; exact List.mem_cons_self
  refine ⟨⟨hrc, hrs, hR.1, hR.2, pay_in ht hG, hc⟩, ht _ (hG _ hc).1, ok _ (by simp [va_wsS]), ⟨hd.1, hd.2.1⟩, fun sig h => ?_, ok _ (by simp [va_wsS]), ok _ (by simp [va_wsS])⟩
  have h2 := hd.2.2
  rw [h] at h2
  exact (Option.some.inj h2).symm
theorem vx_callSW (X : Stand p l e R s m args below meth c T locs cells slots) (hexec : p.tables.exec = Jvm.exec) {own : String} {index : Nat} {y : MethodName} {bytes : ByteArray} {maxL : Nat} {ret : Option FieldType} {hh : List (Nat × Nat × Nat × Nat)}
    (hown : s.vm.findClass own = some m.cls) (hlink : (Cond.methodLink own index y).before args s = true) (hstat : (Cond.static y).before args s = true) (hinit : (Cond.initialized y.cls).before args s = true)
    (hcode : (Cond.codeWith y bytes maxL ret hh).before args s = true) (hy : y.cls ≠ "java/lang/invoke/MethodHandle" ∧ y.cls ≠ "java/lang/invoke/VarHandle")
    {W9 : Nat} {Pre : Pt → Array Value → Prop} {Post : Pt → Array Value → Option Value → Pt → Prop} (hK : Back l R p e below s args y 3 W9 Pre Post)
    {g : JFrame} (hg : g.method = m) (hsize : g.locals.size = c.maxLocals) {argsL rest : List Value} (hlen : ∀ sig, parseMethodDescriptor y.desc = some sig → argsL.length = sig.parameters.length)
    (hstack : g.stack = argsL.reverse ++ rest) (hW : 2 * g.monitorRoom + (rest.map fun v => v.category).sum ≤ W9) (hdg : decode c.code g.pc = .ok (.invokestatic index, 3))
    (hpre : ∀ vm₁, s.WarmedH vm₁ → Pre ⟨T.setVm vm₁, locs, cells, slots⟩ argsL.toArray) :
    ∃ (v : Option Value) (vm₁ : Vm) (B : Pt), s.WarmedH vm₁ ∧ Stand p l e R s m args below meth c B.U B.locs B.cells B.slots ∧ Post ⟨T.setVm vm₁, locs, cells, slots⟩ argsL.toArray v B ∧
      ∀ target, Steps p.tables e below (B.U.setTop { g with pc := g.pc + 3, stack := v.toList ++ rest }) target → Steps p.tables e below (T.setTop g) target := by
  obtain ⟨mk, methM, cM, hnamed, hmethM, -, -, -, -, -, -, hsigM⟩ := Cond.codeWith_spec hcode
  have hstatic : methM.isStatic = true := Cond.static_spec hnamed hmethM hstat
  obtain ⟨kP, hkP, -⟩ := className_of_methodNamed hnamed
  have hinitP : kP.init = .initialized := Cond.initialized_spec (findClass_of_methodNamed hnamed) hkP hinit
  obtain ⟨vm₁, X₁, hstep₁⟩ := X.invokestatic hexec hown hlink hnamed hmethM hstatic hkP hinitP hy (g := g) hg (argsL := argsL) (rest := rest) (hlen _ hsigM) hstack hdg
  obtain ⟨v, B, X', hpost, hsteps⟩ := hK m meth c ⟨T.setVm vm₁, locs, cells, slots⟩ { g with stack := rest } (.invokestatic index) mk argsL.toArray X₁ hg hsize hdg hW (X₁.named hnamed) (hpre vm₁ X₁.warmed)
  exact ⟨v, vm₁, B, X₁.warmed, X', hpost, fun target h => hstep₁ _ fun acts => by rw [doInvoke_state]; exact hsteps.trans h⟩
theorem vx_runSW {y : MethodName} {bytes cc : ByteArray} {maxL nL mc ms n index : Nat} {ret : Option FieldType} {hh : List (Nat × Nat × Nat × Nat)} {ws : List Cond} {rm : Room} {Pc : Array Value → State → Prop} {Qc : Array Value → State → Outcome → State → Prop} {free : Addr → Prop} {Ts : List Cond} {own : String} {As rest : List Value} {g : JFrame}
    (S : CallFix p m c cc nL s args Ts own) (hM : Met l y ws rm Pc Qc mc ms free) (cw : vx_CSW R s args own index y bytes maxL ret hh ws rm mc ms n) (hp : PreS s H Pc As)
    (hg : g.method = m) (hn : As.length = n) (hsize : g.locals.size = nL) (hstack : g.stack = As.reverse ++ rest) (hW : 2 * g.monitorRoom + (rest.map fun v => v.category).sum ≤ 8) (hdg : decode cc g.pc = .ok (.invokestatic index, 3)) (hf : cells + mc ≤ R.cells ∧ slots + ms ≤ R.slots) :
    va_Run p l e R s m args below meth c H locs cells slots mc ms g rest (Qc As.toArray) (free) := by
  obtain ⟨⟨hrc, hrs, hfr, hlo, hws, hcw⟩, hcode, hini, hy, hlen, hl, hstt⟩ := cw
  have hK : Back l R p e below s args y 3 8 (PreOf R mc ms Pc) (PostOf Qc mc ms free) := va_backW (hh := hh) (bytes := bytes) (maxL := maxL) (ret := ret) hM hp.1 hrc hrs hfr hlo hws hcw (fun a' U hW => word_at hW (Or.inl (by first | rfl | simp [Cond.onTables, Cond.keeps, Cond.steady])) hini)
  obtain ⟨hx, hb, hml, ho, -⟩ := S
  intro T hT X
  obtain ⟨v, vm₁, ⟨U', l2, c2, s2⟩, hW₁, X', ⟨g', mk, t, L, e1, e2, hq, h1, hL, h2, h3⟩, st⟩ := vx_callSW X hx (hh := hh) (bytes := bytes) (maxL := maxL) (ret := ret) ho hl hstt hini hcode hy hK hg (hsize.trans hml.symm) (argsL := As) (rest := rest) (fun sig h => hn.trans (hlen sig h)) hstack hW (by rw [hb]; exact hdg)
    (fun vm₁ hW₁ => ⟨hf.1, hf.2, hp.2 (T.setVm vm₁) hT hW₁⟩)
  dsimp only [Pt.U, Pt.locs, Pt.cells, Pt.slots] at X' e1 e2 h1 h2 h3 st
  subst h1; subst h2; subst h3
  exact ⟨v, (T.setVm vm₁).calling g' mk As.toArray, t, U', L, hT, X', hL, e1, e2, hq, st⟩
theorem vx_outP {p : Program} {l : Launch} {e : Env} {R : Room} {s : State} {m : MethodId} {args : Array Value} {below : List Frame} {meth : Method} {c : Code} {H : Heap} {locs : List Loc} {cells slots : Nat} {free : Addr → Prop} {ls : Array Slot} {rest : List Value} {Qc : Array Value → State → Outcome → State → Prop} {XC : String → State → State → Prop}
    {pc : Nat} {own E : String} {ce : Cell} {q : Addr} {mc ms : Nat} (hown : s.vm.findClass own = some m.cls) (hlocks : meth.locks = false)
    (hpass : ∀ z ∈ c.exceptionTable.toList, covers z pc = false ∨ (z.catchType ≠ 0 ∧ ∃ nm : String, (Cond.classLink own z.catchType nm).before args s = true ∧ va_Nc E nm s)) (hcell : H[q]? = some ce) (hv : ce.vm = .none) (hcl : s.vm.findClass E = some ce.cls)
    (hx : ∀ t : State, t.heap = H → s.vm.Alike t.vm → XC E s t) (hf : ∀ z ∈ locs, free z.base) (hc : cells ≤ mc) (hs : slots ≤ ms) :
    vx_W p l e R s m args below meth c H locs cells slots (vx_MQ below Qc XC args s mc ms free) (F0 m pc ls rest) q := by
  intro T hT X
  have hpl : e.platform.magicAccessors = ({} : Platform).magicAccessors := by rw [X.admits.platform]
  obtain ⟨vm', hW', X', st⟩ := X.outThrough hlocks q (g := F0 m pc ls rest) rfl rfl rfl (cell := ce) (by rw [hT]; exact hcell) (by rw [hv]; rfl)
    (by obtain ⟨k9, h9, -⟩ := Vm.findClass_spec hcl; exact ⟨k9, h9⟩) (fun z hz => by
      rcases hpass z hz with h | ⟨hz0, nm, hl1, hn1⟩
      · exact Or.inl h
      · obtain ⟨c6, hc6, hcl6⟩ := Cond.classLink_spec hown hl1 e.platform hpl
        obtain ⟨a8, b8, h1, h2, h3⟩ := hn1
        cases Option.some.inj (h1.symm.trans hcl)
        cases Option.some.inj (h2.symm.trans hc6)
        exact Or.inr ⟨hz0, _, hcl6, h3⟩)
  obtain ⟨g₀, hfr⟩ := X'.frames_eq
  have hcell9 : ((T.setVm vm').setFrames (.throwing q :: below)).heap[q]? = some ce := by
    show T.heap[q]? = some ce
    rw [hT]; exact hcell
  have hend : Ended ((T.setVm vm').setFrames (.throwing q :: below)) below (.threw q) := State.frames_setFrames _ (State.cur_lt_of_frames hfr)
  refine ⟨(T.setVm vm').setFrames (.throwing q :: below), ?_, .threw q, X'.here.running, hend, Or.inr ⟨q, rfl, E, ce, locs, hx _ hT (X'.ends _).1.alike, hcell9, hv, hcl, (X'.ends _).1, (X'.ends _).2.mono hc hs, hf⟩⟩
  rw [X.pushThrowing_eq]
  exact st
theorem vx_lt {D : va_G} {cl : List vw_C} {ws : va_W} {H1 : Heap} (h : va_P D cl ws H1) {k : Nat} {q : Nat × va_E} (hk : ws[k]? = some q) : q.1 < H1.size := (h k q hk).lt
end VXS
section VXH
section
variable {l : Launch} {R : Room} {p : Program} {e : Env} {below : List Frame} {s : State} {sargs : Array Value} {y : MethodName} {len W9 : Nat}
theorem vx_backW {ws : List Cond} {rm : Room} {Pc : Array Value → State → Prop} {Qc : Array Value → State → Outcome → State → Prop} {XC : String → State → State → Prop} {mc ms : Nat} {free : Addr → Prop} {bytes : ByteArray} {maxL : Nat} {ret : Option FieldType} {hh : List (Nat × Nat × Nat × Nat)}
    (hM : vx_Met l y ws rm Pc Qc XC mc ms free) (hblind : FrameBlind Pc) (hrc : rm.cells = mc) (hrs : rm.slots = ms)
    (hframes : rm.frames + 1 ≤ R.frames) (hlocals : W9 + (maxL + 11) + rm.locals ≤ R.locals)
    (hws : ∀ w ∈ ws, ∀ a' U, s.WarmedH U.vm → w.before a' U = true) (hcode : Cond.codeWith y bytes maxL ret hh ∈ ws) (hinit : ∀ a' U, s.WarmedH U.vm → (Cond.initialized y.cls).before a' U = true) :
    vx_Back l R p e below s sargs y len W9 (PreOf R mc ms Pc) (PostOf Qc mc ms free) (vx_Post XC mc ms free) := by
  intro m meth c A g ig mk a X hg hsize hdg hW hn hp
  have h1 : (headSpec ws rm).pre.before a A.U = true := atoms_intro fun w hw => hws w hw _ _ X.warmed
  have h2 : (Cond.codeWith y bytes maxL ret hh).before a A.U = true := hws _ hcode _ _ X.warmed
  have h3 : (Cond.initialized y.cls).before a A.U = true := hinit _ _ X.warmed
  have h4 : A.cells + (headSpec ws rm).room.cells ≤ R.cells := by rw [show (headSpec ws rm).room.cells = mc from hrc]; exact hp.1
  have h5 : A.slots + (headSpec ws rm).room.slots ≤ R.slots := by rw [show (headSpec ws rm).room.slots = ms from hrs]; exact hp.2.1
  have hPc : Pc a (A.U.calling g mk a) := hblind _ _ _ _ hp.2.2
  obtain ⟨U, Ls, c0, s0⟩ := A
  dsimp only [Pt.U, Pt.locs, Pt.cells, Pt.slots] at h1 h2 h3 h4 h5 X hn hPc ⊢
  obtain ⟨m9, methY, cY, hn9, hmY, hcY, -, hlY, -⟩ := Cond.codeWith_spec h2
  cases Option.some.inj (hn9.symm.trans hn)
  obtain ⟨kY, hkY, -⟩ := className_of_methodNamed hn
  have hinitY : kY.init = .initialized := Cond.initialized_spec (findClass_of_methodNamed hn) hkY h3
  have h : At U g.method c below := by rw [hg]; exact X.here
  have hlocals9 : W9 + (maxL + 11) + (headSpec ws rm).room.locals ≤ R.locals := hlocals
  have happ : (headSpec ws rm).appliesLoose y e.platform (U.calling g mk a) = true :=
    Spec.appliesLoose_calling (g := g) h hdg hn hkY hinitY
      (X.room_calling (g := g) (R' := (headSpec ws rm).room) hsize hmY hcY hframes (by rw [hlY]; omega) h4 h5) h1
  obtain ⟨mid, hmid⟩ := h.above
  have hfr : (U.setTop g).frames = (.java g :: mid) ++ below := by rw [State.frames_setTop' g h.top, hmid]; rfl
  obtain ⟨o, s₂, hsteps, -, hend, hq⟩ := Steps.callFree hM p X.admits X.cas X.clock (acts := []) hfr happ hPc trivial
  have hq' : vx_Q Qc XC mc ms free a (U.calling g mk a) o s₂ := hq
  rw [State.frames_setTop' g h.top] at hend
  obtain ⟨g₀, hg0⟩ := Option.isSome_iff_exists.mp h.top
  obtain ⟨r, hr⟩ := State.topJava?_eq_some.mp hg0
  have hr' : (({ U with heap := s₂.heap, slotsUsed := s₂.slotsUsed } : State).setVm s₂.vm).frames = .java g₀ :: r := hr
  rcases hq' with ⟨hqc, L, hfe, hL⟩ | ⟨q, rfl, E, ce, L, hx, hce, hcv, hcl, hW₂, hsm, hL⟩
  · obtain ⟨⟨v, rfl⟩, hW₂, e2, q2, q3, q4, q5, q6⟩ := id hfe
    have e3 : s₂ = ({ (U.calling g mk a).setFrames s₂.frames with heap := s₂.heap, slotsUsed := s₂.slotsUsed } : State).setVm s₂.vm := by
      have : s₂ = ({ s₂ with vm := (U.calling g mk a).vm } : State).setVm s₂.vm := rfl
      rw [e2] at this
      exact this
    obtain ⟨c₂, i₂, len₂, hc₂, hd₂, hf₂⟩ := hend
    have hW' : U.WarmedH s₂.vm := hW₂
    have hcc : c₂ = c := by
      have h1 : s₂.code? g.method = U.code? g.method := by
        rw [State.code?_eq, State.code?_eq, hW'.alike.method?]
      exact Option.some.inj (hc₂.symm.trans (h1.trans h.code))
    subst hcc
    have hlen : len₂ = len := by rw [hdg] at hd₂; cases hd₂; rfl
    subst hlen
    have hs₂ : s₂ = (({ U with heap := s₂.heap, slotsUsed := s₂.slotsUsed } : State).setVm s₂.vm).setTop { g with pc := g.pc + len₂, stack := v.toList ++ g.stack } := by
      refine e3.trans ?_
      rw [hf₂, State.calling_eq h.top, State.setFrames_setFrames, State.setTop_of_frames _ hr', hr]
      rfl
    have hsame : U.sameButNew ({ U with heap := s₂.heap, slotsUsed := s₂.slotsUsed } : State) L mc ms := by
      refine ⟨?_, q2, q3, q4, q5, q6⟩
      obtain ⟨t, ht, -⟩ := State.frames_cons hr
      show ({ U with heap := s₂.heap, slotsUsed := s₂.slotsUsed } : State) = { U.setFrames U.frames with heap := s₂.heap, slotsUsed := s₂.slotsUsed }
      rw [State.setFrames_self ht]
    subst hg
    refine Or.inl ⟨v, ⟨(({ U with heap := s₂.heap, slotsUsed := s₂.slotsUsed } : State).setVm s₂.vm), Ls ++ L, c0 + mc, s0 + ms⟩,
      ⟨X.admits, X.cas, X.clock, X.frames, X.room, X.hears, X.method, X.code, (X.here.setHeapUsed s₂.heap s₂.slotsUsed).setVm hW'.alike, X.tail, State.WarmedH.trans X.warmed hW', X.limits, X.bytes, X.same.trans (hsame.setVm s.vm)⟩,
      ⟨g, mk, s₂, L, rfl, rfl, hqc, rfl, hL, rfl, rfl⟩, ?_⟩
    show Steps p.tables e below _ ((({ U with heap := s₂.heap, slotsUsed := s₂.slotsUsed } : State).setVm s₂.vm).setTop { g with pc := g.pc + len₂, stack := v.toList ++ g.stack })
    rw [← hs₂]
    exact hsteps
  · obtain ⟨e2, q2, q3, q4, q5, q6⟩ := id hsm
    have e3 : s₂ = ({ (U.calling g mk a).setFrames s₂.frames with heap := s₂.heap, slotsUsed := s₂.slotsUsed } : State).setVm s₂.vm := by
      have : s₂ = ({ s₂ with vm := (U.calling g mk a).vm } : State).setVm s₂.vm := rfl
      rw [e2] at this
      exact this
    have hf₂ : s₂.frames = .throwing q :: .java g :: U.frames.tail := hend
    have hW' : U.WarmedH s₂.vm := hW₂
    have hs₂ : s₂ = ((({ U with heap := s₂.heap, slotsUsed := s₂.slotsUsed } : State).setVm s₂.vm).setTop g).pushFrame (.throwing q) := by
      refine e3.trans ?_
      rw [hf₂, State.calling_eq h.top, State.setFrames_setFrames, State.pushFrame, State.frames_setTop _ hr', State.setTop_of_frames _ hr', State.setFrames_setFrames, hr]
      rfl
    have hsame : U.sameButNew ({ U with heap := s₂.heap, slotsUsed := s₂.slotsUsed } : State) L mc ms := by
      refine ⟨?_, q2, q3, q4, q5, q6⟩
      obtain ⟨t, ht, -⟩ := State.frames_cons hr
      show ({ U with heap := s₂.heap, slotsUsed := s₂.slotsUsed } : State) = { U.setFrames U.frames with heap := s₂.heap, slotsUsed := s₂.slotsUsed }
      rw [State.setFrames_self ht]
    subst hg
    refine Or.inr ⟨q, ⟨(({ U with heap := s₂.heap, slotsUsed := s₂.slotsUsed } : State).setVm s₂.vm), Ls ++ L, c0 + mc, s0 + ms⟩,
      ⟨X.admits, X.cas, X.clock, X.frames, X.room, X.hears, X.method, X.code, (X.here.setHeapUsed s₂.heap s₂.slotsUsed).setVm hW'.alike, X.tail, State.WarmedH.trans X.warmed hW', X.limits, X.bytes, X.same.trans (hsame.setVm s.vm)⟩,
      ⟨g, mk, s₂, L, E, ce, rfl, rfl, hx, hce, hcv, hcl, rfl, hL, rfl, rfl⟩, ?_⟩
    show Steps p.tables e below _ (((({ U with heap := s₂.heap, slotsUsed := s₂.slotsUsed } : State).setVm s₂.vm).setTop g).pushFrame (.throwing q))
    rw [← hs₂]
    exact hsteps
end
variable {p : Program} {l : Launch} {e : Env} {R : Room} {s : State} {m : MethodId} {args : Array Value} {below : List Frame} {meth : Method} {c : Code} {T : State} {H : Heap} {locs : List Loc} {cells slots : Nat}
theorem vx_callVX (X : Stand p l e R s m args below meth c T locs cells slots) (hexec : p.tables.exec = Jvm.exec) {own C : String} {index : Nat} {y : MethodName} {bytes : ByteArray} {maxL : Nat} {ret : Option FieldType} {hh : List (Nat × Nat × Nat × Nat)}
    (hown : s.vm.findClass own = some m.cls) (hlink : (Cond.methodLink own index y).before args s = true) (hinst : (Cond.instanceMethod y).before args s = true) (hsel : (Cond.selects C y y).before args s = true)
    (hcode : (Cond.codeWith y bytes maxL ret hh).before args s = true) (hy : y.cls ≠ "java/lang/invoke/MethodHandle" ∧ y.cls ≠ "java/lang/invoke/VarHandle")
    {W9 : Nat} {Pre : Pt → Array Value → Prop} {Post : Pt → Array Value → Option Value → Pt → Prop} {PostX : Pt → Array Value → Addr → Pt → Prop} (hK : vx_Back l R p e below s args y 3 W9 Pre Post PostX)
    {b : Addr} {cellB : Cell} (hcell : T.heap[b]? = some cellB) (hobj : cellB.vm.isStatics = false) (hcls : s.vm.findClass C = some cellB.cls)
    {g : JFrame} (hg : g.method = m) (hsize : g.locals.size = c.maxLocals) {argsL rest : List Value} (hlen : ∀ sig, parseMethodDescriptor y.desc = some sig → argsL.length = sig.parameters.length)
    (hstack : g.stack = argsL.reverse ++ .ref b :: rest) (hW : 2 * g.monitorRoom + (rest.map fun v => v.category).sum ≤ W9) (hdg : decode c.code g.pc = .ok (.invokevirtual index, 3))
    (hpre : ∀ vm₁, s.WarmedH vm₁ → Pre ⟨T.setVm vm₁, locs, cells, slots⟩ (Value.ref b :: argsL).toArray) :
    (∃ (v : Option Value) (vm₁ : Vm) (B : Pt), s.WarmedH vm₁ ∧ Stand p l e R s m args below meth c B.U B.locs B.cells B.slots ∧ Post ⟨T.setVm vm₁, locs, cells, slots⟩ (Value.ref b :: argsL).toArray v B ∧
      ∀ target, Steps p.tables e below (B.U.setTop { g with pc := g.pc + 3, stack := v.toList ++ rest }) target → Steps p.tables e below (T.setTop g) target) ∨
    (∃ (q : Addr) (vm₁ : Vm) (B : Pt), s.WarmedH vm₁ ∧ Stand p l e R s m args below meth c B.U B.locs B.cells B.slots ∧ PostX ⟨T.setVm vm₁, locs, cells, slots⟩ (Value.ref b :: argsL).toArray q B ∧
      Steps p.tables e below (T.setTop g) ((B.U.setTop { g with stack := rest }).pushFrame (.throwing q))) := by
  obtain ⟨mk, methM, hnamed, hmethM, hstM, habM⟩ := Cond.instanceMethod_spec hinst
  obtain ⟨m8, methM', cM, hn8, hmethM', -, -, -, -, -, -, hsigM⟩ := Cond.codeWith_spec hcode
  cases Option.some.inj (hn8.symm.trans hnamed)
  cases hmethM.symm.trans hmethM'
  obtain ⟨c2, r2, m2, q1, q2, q3, q4, kP, hkP, hkPi⟩ := Cond.selects_spec hsel
  cases hcls.symm.trans q1
  cases (State.methodFound?_of_named hnamed hy).symm.trans q2
  cases hnamed.symm.trans q3
  have hselP : selectMethod e.platform s.vm cellB.cls mk = .method mk := by rw [Launch.admits_selectMethod X.admits]; exact q4
  obtain ⟨vm₁, X₁, hstep₁⟩ := X.invokevirtual hexec hown hlink hnamed hmethM hstM hkP hkPi hy (a := b) (cell := cellB) hcell
    (fun z h => by rw [h] at hobj; cases hobj) hselP hmethM habM hkP hkPi (g := g) hg (argsL := argsL) (rest := rest) (hlen _ hsigM) hstack hdg
  rcases hK m meth c ⟨T.setVm vm₁, locs, cells, slots⟩ { g with stack := rest } (.invokevirtual index) mk (Value.ref b :: argsL).toArray X₁ hg hsize hdg hW (X₁.named hnamed) (hpre vm₁ X₁.warmed) with ⟨v, B, X', hpost, hsteps⟩ | ⟨q, B, X', hpost, hsteps⟩
  · exact Or.inl ⟨v, vm₁, B, X₁.warmed, X', hpost, fun target h => hstep₁ _ fun acts => by rw [doInvoke_state]; exact hsteps.trans h⟩
  · exact Or.inr ⟨q, vm₁, B, X₁.warmed, X', hpost, hstep₁ _ fun acts => by rw [doInvoke_state]; exact hsteps⟩
theorem vx_callSX (X : Stand p l e R s m args below meth c T locs cells slots) (hexec : p.tables.exec = Jvm.exec) {own : String} {index : Nat} {y : MethodName} {bytes : ByteArray} {maxL : Nat} {ret : Option FieldType} {hh : List (Nat × Nat × Nat × Nat)}
    (hown : s.vm.findClass own = some m.cls) (hlink : (Cond.methodLink own index y).before args s = true) (hstat : (Cond.static y).before args s = true) (hinit : (Cond.initialized y.cls).before args s = true)
    (hcode : (Cond.codeWith y bytes maxL ret hh).before args s = true) (hy : y.cls ≠ "java/lang/invoke/MethodHandle" ∧ y.cls ≠ "java/lang/invoke/VarHandle")
    {W9 : Nat} {Pre : Pt → Array Value → Prop} {Post : Pt → Array Value → Option Value → Pt → Prop} {PostX : Pt → Array Value → Addr → Pt → Prop} (hK : vx_Back l R p e below s args y 3 W9 Pre Post PostX)
    {g : JFrame} (hg : g.method = m) (hsize : g.locals.size = c.maxLocals) {argsL rest : List Value} (hlen : ∀ sig, parseMethodDescriptor y.desc = some sig → argsL.length = sig.parameters.length)
    (hstack : g.stack = argsL.reverse ++ rest) (hW : 2 * g.monitorRoom + (rest.map fun v => v.category).sum ≤ W9) (hdg : decode c.code g.pc = .ok (.invokestatic index, 3))
    (hpre : ∀ vm₁, s.WarmedH vm₁ → Pre ⟨T.setVm vm₁, locs, cells, slots⟩ argsL.toArray) :
    (∃ (v : Option Value) (vm₁ : Vm) (B : Pt), s.WarmedH vm₁ ∧ Stand p l e R s m args below meth c B.U B.locs B.cells B.slots ∧ Post ⟨T.setVm vm₁, locs, cells, slots⟩ argsL.toArray v B ∧
      ∀ target, Steps p.tables e below (B.U.setTop { g with pc := g.pc + 3, stack := v.toList ++ rest }) target → Steps p.tables e below (T.setTop g) target) ∨
    (∃ (q : Addr) (vm₁ : Vm) (B : Pt), s.WarmedH vm₁ ∧ Stand p l e R s m args below meth c B.U B.locs B.cells B.slots ∧ PostX ⟨T.setVm vm₁, locs, cells, slots⟩ argsL.toArray q B ∧
      Steps p.tables e below (T.setTop g) ((B.U.setTop { g with stack := rest }).pushFrame (.throwing q))) := by
  obtain ⟨mk, methM, cM, hnamed, hmethM, -, -, -, -, -, -, hsigM⟩ := Cond.codeWith_spec hcode
  have hstatic : methM.isStatic = true := Cond.static_spec hnamed hmethM hstat
  obtain ⟨kP, hkP, -⟩ := className_of_methodNamed hnamed
  have hinitP : kP.init = .initialized := Cond.initialized_spec (findClass_of_methodNamed hnamed) hkP hinit
  obtain ⟨vm₁, X₁, hstep₁⟩ := X.invokestatic hexec hown hlink hnamed hmethM hstatic hkP hinitP hy (g := g) hg (argsL := argsL) (rest := rest) (hlen _ hsigM) hstack hdg
  rcases hK m meth c ⟨T.setVm vm₁, locs, cells, slots⟩ { g with stack := rest } (.invokestatic index) mk argsL.toArray X₁ hg hsize hdg hW (X₁.named hnamed) (hpre vm₁ X₁.warmed) with ⟨v, B, X', hpost, hsteps⟩ | ⟨q, B, X', hpost, hsteps⟩
  · exact Or.inl ⟨v, vm₁, B, X₁.warmed, X', hpost, fun target h => hstep₁ _ fun acts => by rw [doInvoke_state]; exact hsteps.trans h⟩
  · exact Or.inr ⟨q, vm₁, B, X₁.warmed, X', hpost, hstep₁ _ fun acts => by rw [doInvoke_state]; exact hsteps⟩
theorem vx_callVW (X : Stand p l e R s m args below meth c T locs cells slots) (hexec : p.tables.exec = Jvm.exec) {own C : String} {index : Nat} {y : MethodName} {bytes : ByteArray} {maxL : Nat} {ret : Option FieldType} {hh : List (Nat × Nat × Nat × Nat)}
    (hown : s.vm.findClass own = some m.cls) (hlink : (Cond.methodLink own index y).before args s = true) (hinst : (Cond.instanceMethod y).before args s = true) (hsel : (Cond.selects C y y).before args s = true)
    (hcode : (Cond.codeWith y bytes maxL ret hh).before args s = true) (hy : y.cls ≠ "java/lang/invoke/MethodHandle" ∧ y.cls ≠ "java/lang/invoke/VarHandle")
    {W9 : Nat} {Pre : Pt → Array Value → Prop} {Post : Pt → Array Value → Option Value → Pt → Prop} (hK : Back l R p e below s args y 3 W9 Pre Post)
    {b : Addr} {cellB : Cell} (hcell : T.heap[b]? = some cellB) (hobj : cellB.vm.isStatics = false) (hcls : s.vm.findClass C = some cellB.cls)
    {g : JFrame} (hg : g.method = m) (hsize : g.locals.size = c.maxLocals) {argsL rest : List Value} (hlen : ∀ sig, parseMethodDescriptor y.desc = some sig → argsL.length = sig.parameters.length)
    (hstack : g.stack = argsL.reverse ++ .ref b :: rest) (hW : 2 * g.monitorRoom + (rest.map fun v => v.category).sum ≤ W9) (hdg : decode c.code g.pc = .ok (.invokevirtual index, 3))
    (hpre : ∀ vm₁, s.WarmedH vm₁ → Pre ⟨T.setVm vm₁, locs, cells, slots⟩ (Value.ref b :: argsL).toArray) :
    ∃ (v : Option Value) (vm₁ : Vm) (B : Pt), s.WarmedH vm₁ ∧ Stand p l e R s m args below meth c B.U B.locs B.cells B.slots ∧ Post ⟨T.setVm vm₁, locs, cells, slots⟩ (Value.ref b :: argsL).toArray v B ∧
      ∀ target, Steps p.tables e below (B.U.setTop { g with pc := g.pc + 3, stack := v.toList ++ rest }) target → Steps p.tables e below (T.setTop g) target := by
  obtain ⟨mk, methM, hnamed, hmethM, hstM, habM⟩ := Cond.instanceMethod_spec hinst
  obtain ⟨m8, methM', cM, hn8, hmethM', -, -, -, -, -, -, hsigM⟩ := Cond.codeWith_spec hcode
  cases Option.some.inj (hn8.symm.trans hnamed)
  cases hmethM.symm.trans hmethM'
  obtain ⟨c2, r2, m2, q1, q2, q3, q4, kP, hkP, hkPi⟩ := Cond.selects_spec hsel
  cases hcls.symm.trans q1
  cases (State.methodFound?_of_named hnamed hy).symm.trans q2
  cases hnamed.symm.trans q3
  have hselP : selectMethod e.platform s.vm cellB.cls mk = .method mk := by rw [Launch.admits_selectMethod X.admits]; exact q4
  obtain ⟨vm₁, X₁, hstep₁⟩ := X.invokevirtual hexec hown hlink hnamed hmethM hstM hkP hkPi hy (a := b) (cell := cellB) hcell
    (fun z h => by rw [h] at hobj; cases hobj) hselP hmethM habM hkP hkPi (g := g) hg (argsL := argsL) (rest := rest) (hlen _ hsigM) hstack hdg
  obtain ⟨v, B, X', hpost, hsteps⟩ := hK m meth c ⟨T.setVm vm₁, locs, cells, slots⟩ { g with stack := rest } (.invokevirtual index) mk (Value.ref b :: argsL).toArray X₁ hg hsize hdg hW (X₁.named hnamed) (hpre vm₁ X₁.warmed)
  exact ⟨v, vm₁, B, X₁.warmed, X', hpost, fun target h => hstep₁ _ fun acts => by rw [doInvoke_state]; exact hsteps.trans h⟩
abbrev vx_CVW (R : Room) (s : State) (args : Array Value) (own C : String) (index : Nat) (y : MethodName) (bytes : ByteArray) (maxL : Nat) (ret : Option FieldType) (hh : List (Nat × Nat × Nat × Nat)) (ws : List Cond) (rm : Room) (mc ms n : Nat) : Prop :=
  (rm.cells = mc ∧ rm.slots = ms ∧ rm.frames + 1 ≤ R.frames ∧ 8 + (maxL + 11) + rm.locals ≤ R.locals ∧ (∀ w ∈ ws, ∀ (a' : Array Value) (U : State), s.WarmedH U.vm → w.before a' U = true) ∧ Cond.codeWith y bytes maxL ret hh ∈ ws) ∧
  (Cond.codeWith y bytes maxL ret hh).before args s = true ∧ (Cond.initialized y.cls).before args s = true ∧ (y.cls ≠ "java/lang/invoke/MethodHandle" ∧ y.cls ≠ "java/lang/invoke/VarHandle") ∧
  (∀ sig, parseMethodDescriptor y.desc = some sig → n = sig.parameters.length) ∧ (Cond.methodLink own index y).before args s = true ∧ (Cond.instanceMethod y).before args s = true ∧ (Cond.selects C y y).before args s = true
theorem vx_cwVW {own C : String} {index maxL mc ms : Nat} {y : MethodName} {bytes : ByteArray} {ret : Option FieldType} {hh : List (Nat × Nat × Nat × Nat)} {Ts ws ws' : List Cond} {rm : Room} (n : Nat) (ht : ∀ w ∈ Ts, w.before args s = true) (hT : GoodIn Ts (wsV own index C y ws)) (hw : ws = Cond.codeWith y bytes maxL ret hh :: ws') (hrc : rm.cells = mc) (hrs : rm.slots = ms)
    (hd : y.cls = C ∧ y.cls ≠ "java/lang/invoke/MethodHandle" ∧ y.cls ≠ "java/lang/invoke/VarHandle" ∧ (parseMethodDescriptor y.desc).map (fun d => d.parameters.length) = some n) (hR : rm.frames + 1 ≤ R.frames ∧ 8 + (maxL + 11) + rm.locals ≤ R.locals) :
    vx_CVW R s args own C index y bytes maxL ret hh ws rm mc ms n := by
  obtain ⟨hC, hd⟩ := hd
  subst hC
  have ok : ∀ w ∈ wsV own index y.cls y ws, w.before args s = true := fun w h => ht w (hT w h).1
  have hG : GoodIn Ts ws := fun w h => hT w (by unfold wsV; exact List.mem_append_right _ h)
  have hc : Cond.codeWith y bytes maxL ret hh ∈ ws := by rw [hw]; exact List.mem_cons_self
  refine ⟨⟨hrc, hrs, hR.1, hR.2, pay_in ht hG, hc⟩, ht _ (hG _ hc).1, ok _ (by simp [wsV]), ⟨hd.1, hd.2.1⟩, fun sig h => ?_, ok _ (by simp [wsV]), ok _ (by simp [wsV]), ok _ (by simp [wsV])⟩
  have h2 := hd.2.2
  rw [h] at h2
  exact (Option.some.inj h2).symm
theorem vx_runVW {y : MethodName} {bytes cc : ByteArray} {maxL nL mc ms n index : Nat} {ret : Option FieldType} {hh : List (Nat × Nat × Nat × Nat)} {ws : List Cond} {rm : Room} {Pc : Array Value → State → Prop} {Qc : Array Value → State → Outcome → State → Prop} {free : Addr → Prop} {Ts : List Cond} {own C : String} {b : Addr} {As rest : List Value} {g : JFrame}
    (S : CallFix p m c cc nL s args Ts own) (hM : Met l y ws rm Pc Qc mc ms free) (cw : vx_CVW R s args own C index y bytes maxL ret hh ws rm mc ms n) (hp : PreV s H C b Pc As)
    (hg : g.method = m) (hn : As.length = n) (hsize : g.locals.size = nL) (hstack : g.stack = As.reverse ++ .ref b :: rest) (hW : 2 * g.monitorRoom + (rest.map fun v => v.category).sum ≤ 8) (hdg : decode cc g.pc = .ok (.invokevirtual index, 3)) (hf : cells + mc ≤ R.cells ∧ slots + ms ≤ R.slots) :
    va_Run p l e R s m args below meth c H locs cells slots mc ms g rest (Qc (Value.ref b :: As).toArray) free := by
  obtain ⟨⟨hrc, hrs, hfr, hlo, hws, hcw⟩, hcode, hini, hy, hlen, hl, hin, hse⟩ := cw
  have hK : Back l R p e below s args y 3 8 (PreOf R mc ms Pc) (PostOf Qc mc ms free) := va_backW (hh := hh) (bytes := bytes) (maxL := maxL) (ret := ret) hM hp.1 hrc hrs hfr hlo hws hcw (fun a' U hW => word_at hW (Or.inl (by first | rfl | simp [Cond.onTables, Cond.keeps, Cond.steady])) hini)
  obtain ⟨hx, hb, hml, ho, -⟩ := S
  obtain ⟨-, ⟨cellB, hcB, hoB, hclB⟩, hPc⟩ := hp
  intro T hT X
  obtain ⟨v, vm₁, ⟨U', l2, c2, s2⟩, hW₁, X', ⟨g', mk, t, L, e1, e2, hq, h1, hL, h2, h3⟩, st⟩ := vx_callVW X hx (C := C) (hh := hh) (bytes := bytes) (maxL := maxL) (ret := ret) ho hl hin hse hcode hy hK (by rw [hT]; exact hcB) hoB hclB hg (hsize.trans hml.symm) (argsL := As) (rest := rest) (fun sig h => hn.trans (hlen sig h)) hstack hW (by rw [hb]; exact hdg)
    (fun vm₁ hW₁ => ⟨hf.1, hf.2, hPc (T.setVm vm₁) hT hW₁⟩)
  dsimp only [Pt.U, Pt.locs, Pt.cells, Pt.slots] at X' e1 e2 h1 h2 h3 st
  subst h1; subst h2; subst h3
  exact ⟨v, (T.setVm vm₁).calling g' mk (Value.ref b :: As).toArray, t, U', L, hT, X', hL, e1, e2, hq, st⟩
section
variable {y : MethodName} {bytes cc : ByteArray} {maxL nL mc ms n index : Nat} {ret : Option FieldType} {ws : List Cond} {rm : Room} {Pc : Array Value → State → Prop} {Qc : Array Value → State → Outcome → State → Prop} {XC : String → State → State → Prop} {free : Addr → Prop} {Ts : List Cond} {own C : String} {b : Addr} {As rest : List Value} {g : JFrame}
theorem vx_runVX {hh : List (Nat × Nat × Nat × Nat)} (S : CallFix p m c cc nL s args Ts own) (hM : vx_Met l y ws rm Pc Qc XC mc ms free) (cw : vx_CVW R s args own C index y bytes maxL ret hh ws rm mc ms n) (hp : PreV s H C b Pc As)
    (hg : g.method = m) (hn : As.length = n) (hsize : g.locals.size = nL) (hstack : g.stack = As.reverse ++ .ref b :: rest) (hW : 2 * g.monitorRoom + (rest.map fun v => v.category).sum ≤ 8) (hdg : decode cc g.pc = .ok (.invokevirtual index, 3)) (hf : cells + mc ≤ R.cells ∧ slots + ms ≤ R.slots) :
    vx_Run p l e R s m args below meth c H locs cells slots mc ms g rest (Qc (Value.ref b :: As).toArray) XC free := by
  obtain ⟨⟨hrc, hrs, hfr, hlo, hws, hcw⟩, hcode, hini, hy, hlen, hl, hin, hse⟩ := cw
  have hK : vx_Back l R p e below s args y 3 8 (PreOf R mc ms Pc) (PostOf Qc mc ms free) (vx_Post XC mc ms free) := vx_backW (hh := hh) (bytes := bytes) (maxL := maxL) (ret := ret) hM hp.1 hrc hrs hfr hlo hws hcw (fun a' U hW => word_at hW (Or.inl (by first | rfl | simp [Cond.onTables, Cond.keeps, Cond.steady])) hini)
  obtain ⟨hx, hb, hml, ho, -⟩ := S
  obtain ⟨-, ⟨cellB, hcB, hoB, hclB⟩, hPc⟩ := hp
  intro T hT X
  rcases vx_callVX X hx (C := C) (hh := hh) (bytes := bytes) (maxL := maxL) (ret := ret) ho hl hin hse hcode hy hK (by rw [hT]; exact hcB) hoB hclB hg (hsize.trans hml.symm) (argsL := As) (rest := rest) (fun sig h => hn.trans (hlen sig h)) hstack hW (by rw [hb]; exact hdg)
    (fun vm₁ hW₁ => ⟨hf.1, hf.2, hPc (T.setVm vm₁) hT hW₁⟩) with ⟨v, vm₁, ⟨U', l2, c2, s2⟩, hW₁, X', ⟨g', mk, t, L, e1, e2, hq, h1, hL, h2, h3⟩, st⟩ | ⟨q, vm₁, ⟨U', l2, c2, s2⟩, hW₁, X', ⟨g', mk, t, L, E, ce, e1, e2, hq, hce, hcv, hcl, h1, hL, h2, h3⟩, st⟩
  · dsimp only [Pt.U, Pt.locs, Pt.cells, Pt.slots] at X' e1 e2 h1 h2 h3 st
    subst h1; subst h2; subst h3
    exact Or.inl ⟨v, (T.setVm vm₁).calling g' mk (Value.ref b :: As).toArray, t, U', L, hT, X', hL, e1, e2, hq, st⟩
  · dsimp only [Pt.U, Pt.locs, Pt.cells, Pt.slots] at X' e1 e2 h1 h2 h3 st hcl
    subst h1; subst h2; subst h3
    exact Or.inr ⟨q, (T.setVm vm₁).calling g' mk (Value.ref b :: As).toArray, t, U', L, E, ce, hT, X', hL, e1, e2, hq, hce, hcv, vx_cls hW₁ hcl, st⟩
theorem vx_runSX {hh : List (Nat × Nat × Nat × Nat)} (S : CallFix p m c cc nL s args Ts own) (hM : vx_Met l y ws rm Pc Qc XC mc ms free) (cw : vx_CSW R s args own index y bytes maxL ret hh ws rm mc ms n) (hp : PreS s H Pc As)
    (hg : g.method = m) (hn : As.length = n) (hsize : g.locals.size = nL) (hstack : g.stack = As.reverse ++ rest) (hW : 2 * g.monitorRoom + (rest.map fun v => v.category).sum ≤ 8) (hdg : decode cc g.pc = .ok (.invokestatic index, 3)) (hf : cells + mc ≤ R.cells ∧ slots + ms ≤ R.slots) :
    vx_Run p l e R s m args below meth c H locs cells slots mc ms g rest (Qc As.toArray) XC free := by
  obtain ⟨⟨hrc, hrs, hfr, hlo, hws, hcw⟩, hcode, hini, hy, hlen, hl, hstt⟩ := cw
  have hK : vx_Back l R p e below s args y 3 8 (PreOf R mc ms Pc) (PostOf Qc mc ms free) (vx_Post XC mc ms free) := vx_backW (hh := hh) (bytes := bytes) (maxL := maxL) (ret := ret) hM hp.1 hrc hrs hfr hlo hws hcw (fun a' U hW => word_at hW (Or.inl (by first | rfl | simp [Cond.onTables, Cond.keeps, Cond.steady])) hini)
  obtain ⟨hx, hb, hml, ho, -⟩ := S
  intro T hT X
  rcases vx_callSX X hx (hh := hh) (bytes := bytes) (maxL := maxL) (ret := ret) ho hl hstt hini hcode hy hK hg (hsize.trans hml.symm) (argsL := As) (rest := rest) (fun sig h => hn.trans (hlen sig h)) hstack hW (by rw [hb]; exact hdg)
    (fun vm₁ hW₁ => ⟨hf.1, hf.2, hp.2 (T.setVm vm₁) hT hW₁⟩) with ⟨v, vm₁, ⟨U', l2, c2, s2⟩, hW₁, X', ⟨g', mk, t, L, e1, e2, hq, h1, hL, h2, h3⟩, st⟩ | ⟨q, vm₁, ⟨U', l2, c2, s2⟩, hW₁, X', ⟨g', mk, t, L, E, ce, e1, e2, hq, hce, hcv, hcl, h1, hL, h2, h3⟩, st⟩
  · dsimp only [Pt.U, Pt.locs, Pt.cells, Pt.slots] at X' e1 e2 h1 h2 h3 st
    subst h1; subst h2; subst h3
    exact Or.inl ⟨v, (T.setVm vm₁).calling g' mk As.toArray, t, U', L, hT, X', hL, e1, e2, hq, st⟩
  · dsimp only [Pt.U, Pt.locs, Pt.cells, Pt.slots] at X' e1 e2 h1 h2 h3 st hcl
    subst h1; subst h2; subst h3
    exact Or.inr ⟨q, (T.setVm vm₁).calling g' mk As.toArray, t, U', L, E, ce, hT, X', hL, e1, e2, hq, hce, hcv, vx_cls hW₁ hcl, st⟩
end
end VXH
theorem vx_ofWH {l : Launch} {y : MethodName} {ws ws' : List Cond} {rm : Room} {Pc : Array Value → State → Prop} {Qc : Array Value → State → Outcome → State → Prop} {XC : String → State → State → Prop} {mc ms : Nat} {free : Addr → Prop} {cc : ByteArray} {maxL : Nat} {ret : Option FieldType} {hh : List (Nat × Nat × Nat × Nat)}
    (hy : plainName y.cls = true) (hw : ws = Cond.codeWith y cc maxL ret hh :: ws')
    (body : ∀ p e s m args below meth c s₁, BodyLoose p l y (headSpec ws rm) cc maxL ret e s m args below meth c s₁ → c.maxLocals = maxL → Pc args s →
      W p l e (headSpec ws rm).room s m args below meth c s.heap [] 0 0 (vx_MQ below Qc XC args s mc ms free) (entryFrame m args maxL)) : vx_Met l y ws rm Pc Qc XC mc ms free := by
  refine MetFree.of_bodyS (code := cc) (maxLocals := maxL) (ret := ret) hy ?_ ?_
  · intro args s m h hn
    obtain ⟨m9, meth, c, hn9, h1, h2, h3, h4, -, h5, h6, -⟩ := Cond.codeWith_spec (atoms_spec (ws := ws) h _ (by rw [hw]; exact List.mem_cons_self))
    cases hn.symm.trans hn9
    exact ⟨meth, c, h1, h2, h3, h4, h5, h6⟩
  · intro p e s m args below meth c s₁ B hml hP _
    have hh0 : s₁.heap = s.heap := by rw [B.state]; rfl
    obtain ⟨t, a1, o, b1, b2, b3⟩ := body p e s m args below meth c s₁ B hml hP s₁ hh0 (Stand.of_body B)
    exact ⟨t, o, a1, b1, b2, b3⟩
end
section
def RX0 : String := "CallJoin$Calls"
def TX0 : u_T := fun k => match k with
  | 0 => ("CallJoin$Calls", "size", "I", false)
  | 1 => ("CallJoin$Calls", "line", "[I", true)
  | 2 => ("CallJoin$Calls", "kind", "[I", true)
  | 3 => ("CallJoin$Calls", "point", "[I", true)
  | 4 => ("CallJoin$Calls", "words", "[I", true)
  | 5 => ("CallJoin$Calls", "road", "[I", true)
  | 6 => ("CallJoin$Calls", "time", "[I", true)
  | 7 => ("CallJoin$Calls", "event", "[I", true)
  | 8 => ("CallJoin$Calls", "reason", "[I", true)
  | 9 => ("CallJoin$Calls", "how", "[I", true)
  | _ => ("CallJoin$Calls", "marks", "[I", true)
def tyX0 : Nat → FieldType := fun k => match k with
  | 0 => .int
  | 1 => .array .int
  | 2 => .array .int
  | 3 => .array .int
  | 4 => .array .int
  | 5 => .array .int
  | 6 => .array .int
  | 7 => .array .int
  | 8 => .array .int
  | 9 => .array .int
  | _ => .array .int
theorem nmX0 : ∀ a, a < 11 → ∀ b, b < 11 → a ≠ b → (TX0 a).2.1 ≠ (TX0 b).2.1 := by decide +kernel
theorem tyX0_ok : ∀ k, k < 11 → parseFieldDescriptor (TX0 k).2.2.1 = some (tyX0 k) := by decide +kernel
set_option maxRecDepth 20000 in
theorem inX0 : ∀ w ∈ u_ws RX0 TX0 11, w ∈ lw_tbl := by decide +kernel
abbrev cX0_init : ByteArray := prog_2_method_1_code
def yX0_init : MethodName := ⟨RX0, "<init>", "()V"⟩
abbrev cX0_draft : ByteArray := prog_2_method_2_code
def yX0_draft : MethodName := ⟨RX0, "draft", "(IIIIII)I"⟩
abbrev cX0_latestTime : ByteArray := prog_2_method_3_code
def yX0_latestTime : MethodName := ⟨RX0, "latestTime", "()I"⟩
abbrev cX0_isHoax : ByteArray := prog_2_method_4_code
def yX0_isHoax : MethodName := ⟨RX0, "isHoax", "(I)Z"⟩
abbrev cX0_moveBranch : ByteArray := prog_2_method_5_code
def yX0_moveBranch : MethodName := ⟨RX0, "moveBranch", "(II)V"⟩
abbrev cX0_isUnder : ByteArray := prog_2_method_6_code
def yX0_isUnder : MethodName := ⟨RX0, "isUnder", "(II)Z"⟩
abbrev cX0_moveAll : ByteArray := prog_2_method_7_code
def yX0_moveAll : MethodName := ⟨RX0, "moveAll", "(II)V"⟩
abbrev cX0_countIn : ByteArray := prog_2_method_8_code
def yX0_countIn : MethodName := ⟨RX0, "countIn", "(I)I"⟩
abbrev cX0_memberOf : ByteArray := prog_2_method_9_code
def yX0_memberOf : MethodName := ⟨RX0, "memberOf", "(II)I"⟩
abbrev cX0_weighEvent : ByteArray := prog_2_method_10_code
def yX0_weighEvent : MethodName := ⟨RX0, "weighEvent", "(I)I"⟩
abbrev cX0_weighCall : ByteArray := prog_2_method_11_code
def yX0_weighCall : MethodName := ⟨RX0, "weighCall", "(I)I"⟩
abbrev cX0_pointOf : ByteArray := prog_2_method_12_code
def yX0_pointOf : MethodName := ⟨RX0, "pointOf", "(I)I"⟩
abbrev cX0_latestTimeOf : ByteArray := prog_2_method_13_code
def yX0_latestTimeOf : MethodName := ⟨RX0, "latestTimeOf", "(I)I"⟩
abbrev cX0_countHoaxes : ByteArray := prog_2_method_14_code
def yX0_countHoaxes : MethodName := ⟨RX0, "countHoaxes", "()I"⟩
def RX1 : String := "CallJoin$Events"
def TX1 : u_T := fun k => match k with
  | 0 => ("CallJoin$Events", "size", "I", false)
  | 1 => ("CallJoin$Events", "state", "[I", true)
  | 2 => ("CallJoin$Events", "kind", "[I", true)
  | 3 => ("CallJoin$Events", "first", "[I", true)
  | 4 => ("CallJoin$Events", "road", "[I", true)
  | 5 => ("CallJoin$Events", "from", "[I", true)
  | _ => ("CallJoin$Events", "to", "[I", true)
def tyX1 : Nat → FieldType := fun k => match k with
  | 0 => .int
  | 1 => .array .int
  | 2 => .array .int
  | 3 => .array .int
  | 4 => .array .int
  | 5 => .array .int
  | _ => .array .int
theorem nmX1 : ∀ a, a < 7 → ∀ b, b < 7 → a ≠ b → (TX1 a).2.1 ≠ (TX1 b).2.1 := by decide +kernel
theorem tyX1_ok : ∀ k, k < 7 → parseFieldDescriptor (TX1 k).2.2.1 = some (tyX1 k) := by decide +kernel
set_option maxRecDepth 20000 in
theorem inX1 : ∀ w ∈ u_ws RX1 TX1 7, w ∈ lw_tbl := by decide +kernel
abbrev cX1_init : ByteArray := prog_3_method_1_code
def yX1_init : MethodName := ⟨RX1, "<init>", "()V"⟩
abbrev cX1_begin : ByteArray := prog_3_method_2_code
def yX1_begin : MethodName := ⟨RX1, "begin", "(II)I"⟩
abbrev cX1_isWatchedFor : ByteArray := prog_3_method_3_code
def yX1_isWatchedFor : MethodName := ⟨RX1, "isWatchedFor", "(II)Z"⟩
abbrev cX1_countOpen : ByteArray := prog_3_method_4_code
def yX1_countOpen : MethodName := ⟨RX1, "countOpen", "()I"⟩
def RX2 : String := "CallJoin$Roads"
def TX2 : u_T := fun k => match k with
  | 0 => ("CallJoin$Roads", "size", "[I", true)
  | _ => ("CallJoin$Roads", "points", "[I", true)
def tyX2 : Nat → FieldType := fun k => match k with
  | 0 => .array .int
  | _ => .array .int
theorem nmX2 : ∀ a, a < 2 → ∀ b, b < 2 → a ≠ b → (TX2 a).2.1 ≠ (TX2 b).2.1 := by decide +kernel
theorem tyX2_ok : ∀ k, k < 2 → parseFieldDescriptor (TX2 k).2.2.1 = some (tyX2 k) := by decide +kernel
set_option maxRecDepth 20000 in
theorem inX2 : ∀ w ∈ u_ws RX2 TX2 2, w ∈ lw_tbl := by decide +kernel
abbrev cX2_init : ByteArray := prog_4_method_1_code
def yX2_init : MethodName := ⟨RX2, "<init>", "()V"⟩
abbrev cX2_append : ByteArray := prog_4_method_2_code
def yX2_append : MethodName := ⟨RX2, "append", "(II)I"⟩
abbrev cX2_isNear : ByteArray := prog_4_method_3_code
def yX2_isNear : MethodName := ⟨RX2, "isNear", "(IIII)Z"⟩
abbrev cX2_isNearPiece : ByteArray := prog_4_method_4_code
def yX2_isNearPiece : MethodName := ⟨RX2, "isNearPiece", "(III)Z"⟩
def RX3 : String := "CallJoin$Rules"
def TX3 : u_T := fun k => match k with
  | 0 => ("CallJoin$Rules", "distance", "[I", true)
  | 1 => ("CallJoin$Rules", "span", "[I", true)
  | 2 => ("CallJoin$Rules", "needOver", "[I", true)
  | 3 => ("CallJoin$Rules", "needUnder", "[I", true)
  | _ => ("CallJoin$Rules", "weights", "[I", true)
def tyX3 : Nat → FieldType := fun k => match k with
  | 0 => .array .int
  | 1 => .array .int
  | 2 => .array .int
  | 3 => .array .int
  | _ => .array .int
theorem nmX3 : ∀ a, a < 5 → ∀ b, b < 5 → a ≠ b → (TX3 a).2.1 ≠ (TX3 b).2.1 := by decide +kernel
theorem tyX3_ok : ∀ k, k < 5 → parseFieldDescriptor (TX3 k).2.2.1 = some (tyX3 k) := by decide +kernel
set_option maxRecDepth 20000 in
theorem inX3 : ∀ w ∈ u_ws RX3 TX3 5, w ∈ lw_tbl := by decide +kernel
abbrev cX3_init : ByteArray := prog_5_method_1_code
def yX3_init : MethodName := ⟨RX3, "<init>", "()V"⟩
abbrev cX3_weigh : ByteArray := prog_5_method_2_code
def yX3_weigh : MethodName := ⟨RX3, "weigh", "(II)I"⟩
abbrev cX3_meetsNeed : ByteArray := prog_5_method_3_code
def yX3_meetsNeed : MethodName := ⟨RX3, "meetsNeed", "(III)Z"⟩
def RX4 : String := "CallJoin"
def TX4 : u_T := fun k => match k with
  | 0 => ("CallJoin", "rules", "LCallJoin$Rules;", true)
  | 1 => ("CallJoin", "roads", "LCallJoin$Roads;", true)
  | 2 => ("CallJoin", "calls", "LCallJoin$Calls;", true)
  | _ => ("CallJoin", "events", "LCallJoin$Events;", true)
def tyX4 : Nat → FieldType := fun k => match k with
  | 0 => .object "CallJoin$Rules"
  | 1 => .object "CallJoin$Roads"
  | 2 => .object "CallJoin$Calls"
  | _ => .object "CallJoin$Events"
theorem nmX4 : ∀ a, a < 4 → ∀ b, b < 4 → a ≠ b → (TX4 a).2.1 ≠ (TX4 b).2.1 := by decide +kernel
theorem tyX4_ok : ∀ k, k < 4 → parseFieldDescriptor (TX4 k).2.2.1 = some (tyX4 k) := by decide +kernel
set_option maxRecDepth 20000 in
theorem inX4 : ∀ w ∈ u_ws RX4 TX4 4, w ∈ lw_tbl := by decide +kernel
abbrev cX4_init : ByteArray := prog_1_method_1_code
def yX4_init : MethodName := ⟨RX4, "<init>", "()V"⟩
abbrev cX4_rule : ByteArray := prog_1_method_2_code
def yX4_rule : MethodName := ⟨RX4, "rule", "(IIIII)V"⟩
abbrev cX4_weight : ByteArray := prog_1_method_3_code
def yX4_weight : MethodName := ⟨RX4, "weight", "(III)V"⟩
abbrev cX4_point : ByteArray := prog_1_method_4_code
def yX4_point : MethodName := ⟨RX4, "point", "(II)I"⟩
abbrev cX4_call : ByteArray := prog_1_method_5_code
def yX4_call : MethodName := ⟨RX4, "call", "(IIIIII)I"⟩
abbrev cX4_reasonFor : ByteArray := prog_1_method_6_code
def yX4_reasonFor : MethodName := ⟨RX4, "reasonFor", "(IIIIII)I"⟩
abbrev cX4_mark : ByteArray := prog_1_method_7_code
def yX4_mark : MethodName := ⟨RX4, "mark", "(II)V"⟩
abbrev cX4_split : ByteArray := prog_1_method_8_code
def yX4_split : MethodName := ⟨RX4, "split", "(I)I"⟩
abbrev cX4_merge : ByteArray := prog_1_method_9_code
def yX4_merge : MethodName := ⟨RX4, "merge", "(II)I"⟩
abbrev cX4_watch : ByteArray := prog_1_method_10_code
def yX4_watch : MethodName := ⟨RX4, "watch", "(IIII)V"⟩
abbrev cX4_state : ByteArray := prog_1_method_11_code
def yX4_state : MethodName := ⟨RX4, "state", "(II)V"⟩
abbrev cX4_share : ByteArray := prog_1_method_12_code
def yX4_share : MethodName := ⟨RX4, "share", "(II)I"⟩
abbrev cX4_agree : ByteArray := prog_1_method_13_code
def yX4_agree : MethodName := ⟨RX4, "agree", "(II)I"⟩
abbrev cX4_callAt : ByteArray := prog_1_method_14_code
def yX4_callAt : MethodName := ⟨RX4, "callAt", "(II)I"⟩
abbrev cX4_eventAt : ByteArray := prog_1_method_15_code
def yX4_eventAt : MethodName := ⟨RX4, "eventAt", "(II)I"⟩
abbrev cX4_member : ByteArray := prog_1_method_16_code
def yX4_member : MethodName := ⟨RX4, "member", "(II)I"⟩
abbrev cX4_count : ByteArray := prog_1_method_17_code
def yX4_count : MethodName := ⟨RX4, "count", "(I)I"⟩
abbrev cX4_isBelow : ByteArray := prog_1_method_18_code
def yX4_isBelow : MethodName := ⟨RX4, "isBelow", "(II)Z"⟩
abbrev cX4_needKnown : ByteArray := prog_1_method_19_code
def yX4_needKnown : MethodName := ⟨RX4, "needKnown", "(Z)V"⟩
abbrev cX4_needRange : ByteArray := prog_1_method_20_code
def yX4_needRange : MethodName := ⟨RX4, "needRange", "(Z)V"⟩
abbrev cX4_needState : ByteArray := prog_1_method_21_code
def yX4_needState : MethodName := ⟨RX4, "needState", "(Z)V"⟩
abbrev cX4_needRoom : ByteArray := prog_1_method_22_code
def yX4_needRoom : MethodName := ⟨RX4, "needRoom", "(Z)V"⟩
abbrev cX4_needCallData : ByteArray := prog_1_method_23_code
def yX4_needCallData : MethodName := ⟨RX4, "needCallData", "(IIIII)V"⟩
abbrev cX4_needTwoCalls : ByteArray := prog_1_method_24_code
def yX4_needTwoCalls : MethodName := ⟨RX4, "needTwoCalls", "(II)V"⟩
abbrev cX4_isInOpenEvent : ByteArray := prog_1_method_25_code
def yX4_isInOpenEvent : MethodName := ⟨RX4, "isInOpenEvent", "(I)Z"⟩
abbrev cX4_canBeReason : ByteArray := prog_1_method_26_code
def yX4_canBeReason : MethodName := ⟨RX4, "canBeReason", "(I)Z"⟩
abbrev cX4_seekReason : ByteArray := prog_1_method_27_code
def yX4_seekReason : MethodName := ⟨RX4, "seekReason", "(I)V"⟩
abbrev cX4_takeReason : ByteArray := prog_1_method_28_code
def yX4_takeReason : MethodName := ⟨RX4, "takeReason", "(III)Z"⟩
abbrev cX4_latestOfLine : ByteArray := prog_1_method_29_code
def yX4_latestOfLine : MethodName := ⟨RX4, "latestOfLine", "(I)I"⟩
abbrev cX4_firstOnStretch : ByteArray := prog_1_method_30_code
def yX4_firstOnStretch : MethodName := ⟨RX4, "firstOnStretch", "(I)I"⟩
abbrev cX4_isOnStretch : ByteArray := prog_1_method_31_code
def yX4_isOnStretch : MethodName := ⟨RX4, "isOnStretch", "(II)Z"⟩
abbrev cX4_nearestByPlace : ByteArray := prog_1_method_32_code
def yX4_nearestByPlace : MethodName := ⟨RX4, "nearestByPlace", "(I)I"⟩
abbrev cX4_greatestShare : ByteArray := prog_1_method_33_code
def yX4_greatestShare : MethodName := ⟨RX4, "greatestShare", "(I)I"⟩
abbrev cX4_isCandidate : ByteArray := prog_1_method_34_code
def yX4_isCandidate : MethodName := ⟨RX4, "isCandidate", "(II)Z"⟩
abbrev cX4_agreement : ByteArray := prog_1_method_35_code
def yX4_agreement : MethodName := ⟨RX4, "agreement", "(II)I"⟩
abbrev cX4_isWithinSpan : ByteArray := prog_1_method_36_code
def yX4_isWithinSpan : MethodName := ⟨RX4, "isWithinSpan", "(II)Z"⟩
abbrev cX4_eastOf : ByteArray := prog_1_method_37_code
def yX4_eastOf : MethodName := ⟨RX4, "eastOf", "(I)I"⟩
abbrev cX4_northOf : ByteArray := prog_1_method_38_code
def yX4_northOf : MethodName := ⟨RX4, "northOf", "(I)I"⟩
abbrev cX4_squareBetween : ByteArray := prog_1_method_39_code
def yX4_squareBetween : MethodName := ⟨RX4, "squareBetween", "(II)J"⟩
def RX6 : String := "CallJoinModel"
def TX6 : u_T := fun k => match k with
  | 0 => ("CallJoinModel", "thrown", "I", false)
  | 1 => ("CallJoinModel", "distance", "[I", true)
  | 2 => ("CallJoinModel", "span", "[I", true)
  | 3 => ("CallJoinModel", "over", "[I", true)
  | 4 => ("CallJoinModel", "under", "[I", true)
  | 5 => ("CallJoinModel", "weights", "[I", true)
  | 6 => ("CallJoinModel", "pointCount", "[I", true)
  | 7 => ("CallJoinModel", "points", "[I", true)
  | 8 => ("CallJoinModel", "calls", "I", false)
  | 9 => ("CallJoinModel", "events", "I", false)
  | 10 => ("CallJoinModel", "lineOf", "[I", true)
  | 11 => ("CallJoinModel", "kindOf", "[I", true)
  | 12 => ("CallJoinModel", "pointOf", "[I", true)
  | 13 => ("CallJoinModel", "wordsOf", "[I", true)
  | 14 => ("CallJoinModel", "timeOf", "[I", true)
  | 15 => ("CallJoinModel", "eventOf", "[I", true)
  | 16 => ("CallJoinModel", "reasonOf", "[I", true)
  | 17 => ("CallJoinModel", "marksOf", "[I", true)
  | 18 => ("CallJoinModel", "howOf", "[I", true)
  | 19 => ("CallJoinModel", "stateOf", "[I", true)
  | 20 => ("CallJoinModel", "watched", "[I", true)
  | 21 => ("CallJoinModel", "watchedFrom", "[I", true)
  | 22 => ("CallJoinModel", "watchedTo", "[I", true)
  | _ => ("CallJoinModel", "how", "I", false)
def tyX6 : Nat → FieldType := fun k => match k with
  | 0 => .int
  | 1 => .array .int
  | 2 => .array .int
  | 3 => .array .int
  | 4 => .array .int
  | 5 => .array .int
  | 6 => .array .int
  | 7 => .array .int
  | 8 => .int
  | 9 => .int
  | 10 => .array .int
  | 11 => .array .int
  | 12 => .array .int
  | 13 => .array .int
  | 14 => .array .int
  | 15 => .array .int
  | 16 => .array .int
  | 17 => .array .int
  | 18 => .array .int
  | 19 => .array .int
  | 20 => .array .int
  | 21 => .array .int
  | 22 => .array .int
  | _ => .int
theorem nmX6 : ∀ a, a < 24 → ∀ b, b < 24 → a ≠ b → (TX6 a).2.1 ≠ (TX6 b).2.1 := by decide +kernel
theorem tyX6_ok : ∀ k, k < 24 → parseFieldDescriptor (TX6 k).2.2.1 = some (tyX6 k) := by decide +kernel
set_option maxRecDepth 20000 in
theorem inX6 : ∀ w ∈ u_ws RX6 TX6 24, w ∈ lw_tbl := by decide +kernel
abbrev cX6_init : ByteArray := prog_7_method_1_code
def yX6_init : MethodName := ⟨RX6, "<init>", "()V"⟩
abbrev cX6_thrown : ByteArray := prog_7_method_2_code
def yX6_thrown : MethodName := ⟨RX6, "thrown", "()I"⟩
abbrev cX6_throwing : ByteArray := prog_7_method_3_code
def yX6_throwing : MethodName := ⟨RX6, "throwing", "(ZZZ)Z"⟩
abbrev cX6_in : ByteArray := prog_7_method_4_code
def yX6_in : MethodName := ⟨RX6, "in", "(III)Z"⟩
abbrev cX6_isKind : ByteArray := prog_7_method_5_code
def yX6_isKind : MethodName := ⟨RX6, "isKind", "(I)Z"⟩
abbrev cX6_isRoad : ByteArray := prog_7_method_6_code
def yX6_isRoad : MethodName := ⟨RX6, "isRoad", "(I)Z"⟩
abbrev cX6_isCall : ByteArray := prog_7_method_7_code
def yX6_isCall : MethodName := ⟨RX6, "isCall", "(I)Z"⟩
abbrev cX6_isEvent : ByteArray := prog_7_method_8_code
def yX6_isEvent : MethodName := ⟨RX6, "isEvent", "(I)Z"⟩
abbrev cX6_isPoint : ByteArray := prog_7_method_9_code
def yX6_isPoint : MethodName := ⟨RX6, "isPoint", "(I)Z"⟩
abbrev cX6_rule : ByteArray := prog_7_method_10_code
def yX6_rule : MethodName := ⟨RX6, "rule", "(IIIII)V"⟩
abbrev cX6_weight : ByteArray := prog_7_method_11_code
def yX6_weight : MethodName := ⟨RX6, "weight", "(III)V"⟩
abbrev cX6_point : ByteArray := prog_7_method_12_code
def yX6_point : MethodName := ⟨RX6, "point", "(II)I"⟩
abbrev cX6_squareOf : ByteArray := prog_7_method_13_code
def yX6_squareOf : MethodName := ⟨RX6, "squareOf", "(II)J"⟩
abbrev cX6_sum : ByteArray := prog_7_method_14_code
def yX6_sum : MethodName := ⟨RX6, "sum", "(II)I"⟩
abbrev cX6_isEnough : ByteArray := prog_7_method_15_code
def yX6_isEnough : MethodName := ⟨RX6, "isEnough", "(III)Z"⟩
abbrev cX6_meets : ByteArray := prog_7_method_16_code
def yX6_meets : MethodName := ⟨RX6, "meets", "(IIIII)I"⟩
abbrev cX6_isOpen : ByteArray := prog_7_method_17_code
def yX6_isOpen : MethodName := ⟨RX6, "isOpen", "(I)Z"⟩
abbrev cX6_isHoax : ByteArray := prog_7_method_18_code
def yX6_isHoax : MethodName := ⟨RX6, "isHoax", "(I)Z"⟩
abbrev cX6_firstOf : ByteArray := prog_7_method_19_code
def yX6_firstOf : MethodName := ⟨RX6, "firstOf", "(I)I"⟩
abbrev cX6_isBeside : ByteArray := prog_7_method_20_code
def yX6_isBeside : MethodName := ⟨RX6, "isBeside", "(III)Z"⟩
abbrev cX6_isOn : ByteArray := prog_7_method_21_code
def yX6_isOn : MethodName := ⟨RX6, "isOn", "(III)Z"⟩
abbrev cX6_again : ByteArray := prog_7_method_22_code
def yX6_again : MethodName := ⟨RX6, "again", "(III)I"⟩
abbrev cX6_onStretch : ByteArray := prog_7_method_23_code
def yX6_onStretch : MethodName := ⟨RX6, "onStretch", "(III)I"⟩
abbrev cX6_isBetter : ByteArray := prog_7_method_24_code
def yX6_isBetter : MethodName := ⟨RX6, "isBetter", "(IIIII)Z"⟩
abbrev cX6_agreeing : ByteArray := prog_7_method_25_code
def yX6_agreeing : MethodName := ⟨RX6, "agreeing", "(IIIII)I"⟩
abbrev cX6_reason : ByteArray := prog_7_method_26_code
def yX6_reason : MethodName := ⟨RX6, "reason", "(IIIIII)I"⟩
abbrev cX6_isRange : ByteArray := prog_7_method_27_code
def yX6_isRange : MethodName := ⟨RX6, "isRange", "(III)Z"⟩
abbrev cX6_isKnown : ByteArray := prog_7_method_28_code
def yX6_isKnown : MethodName := ⟨RX6, "isKnown", "(II)Z"⟩
abbrev cX6_call : ByteArray := prog_7_method_29_code
def yX6_call : MethodName := ⟨RX6, "call", "(IIIIII)I"⟩
abbrev cX6_newEvent : ByteArray := prog_7_method_30_code
def yX6_newEvent : MethodName := ⟨RX6, "newEvent", "()I"⟩
abbrev cX6_reasonFor : ByteArray := prog_7_method_31_code
def yX6_reasonFor : MethodName := ⟨RX6, "reasonFor", "(IIIIII)I"⟩
abbrev cX6_mark : ByteArray := prog_7_method_32_code
def yX6_mark : MethodName := ⟨RX6, "mark", "(II)V"⟩
abbrev cX6_split : ByteArray := prog_7_method_33_code
def yX6_split : MethodName := ⟨RX6, "split", "(I)I"⟩
abbrev cX6_size : ByteArray := prog_7_method_34_code
def yX6_size : MethodName := ⟨RX6, "size", "(I)I"⟩
abbrev cX6_merge : ByteArray := prog_7_method_35_code
def yX6_merge : MethodName := ⟨RX6, "merge", "(II)I"⟩
abbrev cX6_watch : ByteArray := prog_7_method_36_code
def yX6_watch : MethodName := ⟨RX6, "watch", "(IIII)V"⟩
abbrev cX6_state : ByteArray := prog_7_method_37_code
def yX6_state : MethodName := ⟨RX6, "state", "(II)V"⟩
abbrev cX6_share : ByteArray := prog_7_method_38_code
def yX6_share : MethodName := ⟨RX6, "share", "(II)I"⟩
abbrev cX6_agree : ByteArray := prog_7_method_39_code
def yX6_agree : MethodName := ⟨RX6, "agree", "(II)I"⟩
abbrev cX6_callAt : ByteArray := prog_7_method_40_code
def yX6_callAt : MethodName := ⟨RX6, "callAt", "(II)I"⟩
abbrev cX6_weightOf : ByteArray := prog_7_method_41_code
def yX6_weightOf : MethodName := ⟨RX6, "weightOf", "(I)I"⟩
abbrev cX6_placeOf : ByteArray := prog_7_method_42_code
def yX6_placeOf : MethodName := ⟨RX6, "placeOf", "(I)I"⟩
abbrev cX6_latestOf : ByteArray := prog_7_method_43_code
def yX6_latestOf : MethodName := ⟨RX6, "latestOf", "(I)I"⟩
abbrev cX6_eventAt : ByteArray := prog_7_method_44_code
def yX6_eventAt : MethodName := ⟨RX6, "eventAt", "(II)I"⟩
abbrev cX6_member : ByteArray := prog_7_method_45_code
def yX6_member : MethodName := ⟨RX6, "member", "(II)I"⟩
abbrev cX6_count : ByteArray := prog_7_method_46_code
def yX6_count : MethodName := ⟨RX6, "count", "(I)I"⟩
def RL : String := "CallJoinLaw"
abbrev cL_rule : ByteArray := method_3_code
def yL_rule : MethodName := ⟨RL, "rule", "(LCallJoin;IIIII)I"⟩
abbrev cL_weight : ByteArray := method_4_code
def yL_weight : MethodName := ⟨RL, "weight", "(LCallJoin;III)I"⟩
abbrev cL_point : ByteArray := method_5_code
def yL_point : MethodName := ⟨RL, "point", "(LCallJoin;II[J)I"⟩
abbrev cL_call : ByteArray := method_6_code
def yL_call : MethodName := ⟨RL, "call", "(LCallJoin;IIIIII[J)I"⟩
abbrev cL_reasonFor : ByteArray := method_7_code
def yL_reasonFor : MethodName := ⟨RL, "reasonFor", "(LCallJoin;IIIIII[J)I"⟩
abbrev cL_mark : ByteArray := method_8_code
def yL_mark : MethodName := ⟨RL, "mark", "(LCallJoin;II)I"⟩
abbrev cL_split : ByteArray := method_9_code
def yL_split : MethodName := ⟨RL, "split", "(LCallJoin;I[J)I"⟩
abbrev cL_merge : ByteArray := method_10_code
def yL_merge : MethodName := ⟨RL, "merge", "(LCallJoin;II[J)I"⟩
abbrev cL_watch : ByteArray := method_11_code
def yL_watch : MethodName := ⟨RL, "watch", "(LCallJoin;IIII)I"⟩
abbrev cL_state : ByteArray := method_12_code
def yL_state : MethodName := ⟨RL, "state", "(LCallJoin;II)I"⟩
abbrev cL_share : ByteArray := method_13_code
def yL_share : MethodName := ⟨RL, "share", "(LCallJoin;II[J)I"⟩
abbrev cL_agree : ByteArray := method_14_code
def yL_agree : MethodName := ⟨RL, "agree", "(LCallJoin;II[J)I"⟩
abbrev cL_callAt : ByteArray := method_15_code
def yL_callAt : MethodName := ⟨RL, "callAt", "(LCallJoin;II[J)I"⟩
abbrev cL_eventAt : ByteArray := method_16_code
def yL_eventAt : MethodName := ⟨RL, "eventAt", "(LCallJoin;II[J)I"⟩
abbrev cL_member : ByteArray := method_17_code
def yL_member : MethodName := ⟨RL, "member", "(LCallJoin;II[J)I"⟩
abbrev cL_count : ByteArray := method_18_code
def yL_count : MethodName := ⟨RL, "count", "(LCallJoin;I[J)I"⟩
abbrev cL_law : ByteArray := code
def yL_law : MethodName := ⟨RL, "law", "([I)Z"⟩
def RJ7 : String := "java/util/Arrays"
abbrev cJ7_fill : ByteArray := prog_18_method_103_code
def yJ7_fill : MethodName := ⟨RJ7, "fill", "([II)V"⟩
abbrev vwCl : List vw_C := [(RX0, TX0, 11), (RX1, TX1, 7), (RX2, TX2, 2), (RX3, TX3, 5), (RX4, TX4, 4), (RX6, TX6, 24)]
end
section
abbrev g_S : Type := (Nat → Int32) × (Nat → Nat → Int32)
def g_sI (u : g_S) (k : Nat) (v : Int32) : g_S := (upd u.1 k v, u.2)
def g_sA (u : g_S) (k : Nat) (i v : Int32) : g_S := (u.1, va_up u.2 k (upd (u.2 k) i.toNatClampNeg v))
def gl {α β : Type} (x : α) (k : α → Option β) : Option β := k x
def ck {β : Type} (i : Int32) (n : Nat) (x : Option β) : Option β := if i < 0 ∨ n ≤ i.toNatClampNeg then none else x
theorem gl_e {α β : Type} {x : α} {k : α → Option β} {r : β} (h : gl x k = some r) : ∃ y, y = x ∧ k y = some r := ⟨x, rfl, h⟩
theorem ck_e {β : Type} {i : Int32} {n : Nat} {x : Option β} {r : β} (h : ck i n x = some r) : vp_in i n ∧ x = some r := by
  unfold ck at h
  by_cases q : i < 0 ∨ n ≤ i.toNatClampNeg
  · rw [if_pos q] at h; cases h
  · rw [if_neg q] at h; exact ⟨q, h⟩
theorem ck_in {β : Type} {i : Int32} {n : Nat} {x : Option β} (h : vp_in i n) : ck i n x = x := by
  unfold ck; rw [if_neg h]
theorem bi_e {α β : Type} {o : Option α} {k : α → Option β} {r : β} (h : o.bind k = some r) : ∃ v, o = some v ∧ k v = some r := by
  cases o with
  | none => cases h
  | some v => exact ⟨v, rfl, h⟩
theorem if_t {β : Type} {c : Prop} [Decidable c] {a b : Option β} {r : β} (hc : c) (h : (if c then a else b) = some r) : a = some r := by rwa [if_pos hc] at h
theorem if_f {β : Type} {c : Prop} [Decidable c] {a b : Option β} {r : β} (hc : ¬ c) (h : (if c then a else b) = some r) : b = some r := by rwa [if_neg hc] at h
theorem if_z {β : Type} {c : Prop} [Decidable c] {a : Option β} {r : β} (h : (if c then none else a) = some r) : ¬ c ∧ a = some r := by
  by_cases q : c
  · rw [if_pos q] at h; cases h
  · rw [if_neg q] at h; exact ⟨q, h⟩
theorem if_s {β : Type} {c : Prop} [Decidable c] {a : Option β} {r : β} (h : (if c then a else none) = some r) : c ∧ a = some r := by
  by_cases q : c
  · rw [if_pos q] at h; exact ⟨q, h⟩
  · rw [if_neg q] at h; cases h
theorem if_nn {β : Type} {c : Prop} [Decidable c] {a b : Option β} {r : β} (hc : c) (h : (if ¬ c then a else b) = some r) : b = some r := by rwa [if_neg (fun q => q hc)] at h
theorem nar_z {v : Int32} (h : v = 0 ∨ v = 1) : narrow .boolean (.int v) = .int v := by rcases h with rfl | rfl <;> rfl
def gT : List Cond := lw_tbl.filter goodWord
theorem gT_of {w : Cond} (h : w ∈ lw_tbl) (hg : goodWord w = true) : w ∈ gT := List.mem_filter.mpr ⟨h, hg⟩
theorem gT_g {w : Cond} (h : w ∈ gT) : w ∈ gT ∧ ((w.onTables && w.keeps) = true ∨ ∃ ty, w = .arrayClass ty) := ⟨h, good_of_word (List.mem_filter.mp h).2⟩
theorem gT_c {c w : Cond} (h : c ∈ gT) (hw : w ∈ c :: gT) : w ∈ gT := (List.mem_cons.mp hw).elim (fun e => e ▸ h) id
theorem gT_good {c : Cond} (h : c ∈ gT) : GoodIn gT (c :: gT) := fun _ hw => gT_g (gT_c h hw)
theorem gT_V {own C : String} {idx : Nat} {y : MethodName} {c : Cond} (h1 : Cond.methodLink own idx y ∈ gT) (h2 : Cond.instanceMethod y ∈ gT) (h3 : Cond.selects C y y ∈ gT) (h4 : Cond.initialized C ∈ gT) (h5 : c ∈ gT) : GoodIn gT (wsV own idx C y (c :: gT)) := fun w hw => by
  refine gT_g ?_
  unfold wsV at hw
  rcases List.mem_append.mp hw with q | q
  · simp only [List.mem_cons, List.not_mem_nil, or_false] at q
    rcases q with rfl | rfl | rfl | rfl
    · exact h1
    · exact h2
    · exact h3
    · exact h4
  · exact gT_c h5 q
theorem gT_S {own : String} {idx : Nat} {y : MethodName} {c : Cond} (h1 : Cond.methodLink own idx y ∈ gT) (h2 : Cond.static y ∈ gT) (h3 : Cond.initialized own ∈ gT) (h5 : c ∈ gT) : GoodIn gT (wsS own idx y (c :: gT)) := fun w hw => by
  refine gT_g ?_
  unfold wsS at hw
  rcases List.mem_append.mp hw with q | q
  · simp only [List.mem_cons, List.not_mem_nil, or_false] at q
    rcases q with rfl | rfl | rfl
    · exact h1
    · exact h2
    · exact h3
  · exact gT_c h5 q
def rg (as : List Nat) (sz : Nat) : Nat → Prop := fun q => q ∈ as ∨ sz ≤ q
theorem rg_mono {as : List Nat} {a b q : Nat} (h : a ≤ b) (hq : rg as b q) : rg as a q := hq.elim Or.inl (fun x => Or.inr (Nat.le_trans h x))
theorem gw_D {ws : va_W} {as : List Nat} (h : ws.map Prod.fst = as) (hn : as.Nodup) (sz : Nat) : va_D (rg as sz) ws := by
  subst h
  refine ⟨fun i j x y hi hj hxy => ?_, fun k q hk => Or.inl (List.mem_map.mpr ⟨q, List.mem_of_getElem? hk, rfl⟩)⟩
  have h1 : (ws.map Prod.fst)[i]? = some x.1 := by rw [List.getElem?_map, hi]; rfl
  have h2 : (ws.map Prod.fst)[j]? = some x.1 := by rw [List.getElem?_map, hj, hxy]; rfl
  have hil : i < (ws.map Prod.fst).length := (List.getElem?_eq_some_iff.mp h1).1
  exact (List.getElem?_inj hil hn).mp (h1.trans h2.symm)
def gw_ok (X : (Nat → Prop) → State → Heap → Prop) : Prop :=
  (∀ (A : Nat → Prop) (U V : State) (H : Heap), V.vm = U.vm → X A U H → X A V H) ∧
  (∀ (A : Nat → Prop) (s U : State) (H : Heap), s.WarmedH U.vm → X A s H → X A U H) ∧
  (∀ (A : Nat → Prop) (U : State) (H H1 : Heap), (∀ a : Nat, a < H.size → ¬ A a → H1[a]? = H[a]?) → X A U H → X A U H1) ∧
  (∀ (A B : Nat → Prop) (U : State) (H : Heap), (∀ q, B q → A q) → X A U H → X B U H)
def gw_C (D : va_G) (cl : List vw_C) (tys : List (ClassId × FieldType)) (as : List Nat) (X : (Nat → Prop) → State → Heap → Prop) (s : State) : Prop :=
  va_K D cl tys s ∧ as.Nodup ∧ X (rg as s.heap.size) s s.heap
def gw_V {σ : Type} (D : va_G) (cl : List vw_C) (as : List Nat) (wd : σ → va_W) (s : State) (u : σ) (H : Heap) (locs : List Loc) : Prop :=
  va_P D cl (wd u) H ∧ va_S (rg as s.heap.size) s.heap H locs
def gw_pre {σ : Type} (D : va_G) (cl : List vw_C) (tys : List (ClassId × FieldType)) (as : List Nat) (X : (Nat → Prop) → State → Heap → Prop) (wd : σ → va_W) (sz : Nat) (u : σ) (U : State) : Prop :=
  U.heap.size = sz ∧ va_P D cl (wd u) U.heap ∧ gw_C D cl tys as X U
theorem gw_blind {σ : Type} {D : va_G} {cl : List vw_C} {tys : List (ClassId × FieldType)} {as : List Nat} {X : (Nat → Prop) → State → Heap → Prop} {wd : σ → va_W} {sz : Nat} {u : σ} {av : List Value} (hX : gw_ok X) : FrameBlind (va_Pc av (gw_pre D cl tys as X wd sz u)) := by
  intro a U g mk h
  obtain ⟨h0, h1, h2, h3, h4, h5⟩ := h
  exact ⟨h0, h1, h2, va_K.moved (u := U) (U := U.calling g mk a) (Vm.Alike.refl U.vm) h3, h4, hX.1 _ U (U.calling g mk a) _ rfl h5⟩
theorem gw_pass {σ : Type} {D : va_G} {cl : List vw_C} {tys : List (ClassId × FieldType)} {as : List Nat} {X : (Nat → Prop) → State → Heap → Prop} {wd : σ → va_W} {s : State} {u : σ} {H : Heap} {locs : List Loc} (hX : gw_ok X) (C : gw_C D cl tys as X s) (V : gw_V D cl as wd s u H locs)
    (U : State) (hU : U.heap = H) (hW : s.WarmedH U.vm) : gw_pre D cl tys as X wd H.size u U := by
  obtain ⟨hK, hn, hx⟩ := C
  subst hU
  refine ⟨rfl, V.1, va_K.moved hW.alike hK, hn, ?_⟩
  have h1 := hX.2.2.1 _ s s.heap U.heap V.2.2.1 hx
  have h2 := hX.2.2.2 _ (rg as U.heap.size) s U.heap (fun q h => rg_mono V.2.1 h) h1
  exact hX.2.1 _ s U _ hW h2
theorem gw_preS {σ : Type} {D : va_G} {cl : List vw_C} {tys : List (ClassId × FieldType)} {as : List Nat} {X : (Nat → Prop) → State → Heap → Prop} {wd : σ → va_W} {s : State} {u : σ} {H : Heap} {locs : List Loc} (hX : gw_ok X) (C : gw_C D cl tys as X s) (V : gw_V D cl as wd s u H locs) (As : List Value) :
    PreS s H (va_Pc As (gw_pre D cl tys as X wd H.size u)) As := ⟨gw_blind hX, fun U hU hW => ⟨rfl, gw_pass hX C V U hU hW⟩⟩
theorem gw_preV {σ : Type} {D : va_G} {cl : List vw_C} {tys : List (ClassId × FieldType)} {as : List Nat} {X : (Nat → Prop) → State → Heap → Prop} {wd : σ → va_W} {s : State} {u : σ} {H : Heap} {locs : List Loc} (hX : gw_ok X) (C : gw_C D cl tys as X s) (V : gw_V D cl as wd s u H locs) {b q0 ci : Nat} {q : vw_C} {fs : List Value} (As : List Value)
    (hc : cl[ci]? = some q) (he : (wd u)[q0]? = some (b, .inr (ci, fs))) : PreV s H q.1 b (va_Pc (Value.ref b :: As) (gw_pre D cl tys as X wd H.size u)) As :=
  ⟨gw_blind hX, va_recv C.1 V.1 hc he, fun U hU hW => ⟨rfl, gw_pass hX C V U hU hW⟩⟩
def exN (k : Nat) : String := match k with
  | 1 => "java/lang/IllegalArgumentException"
  | 2 => "java/lang/IndexOutOfBoundsException"
  | 3 => "java/lang/IllegalStateException"
  | 4 => "java/lang/UnsupportedOperationException"
  | _ => "java/lang/ArithmeticException"
section GWM
variable {σ : Type} (D : va_G) (cl : List vw_C) (tys : List (ClassId × FieldType)) (as : List Nat) (X : (Nat → Prop) → State → Heap → Prop) (wd : σ → va_W)
def gw_Pi (r : Int32) (u' : σ) : Int32 → σ → Prop := fun x w => x = r ∧ w = u'
def gw_Pl (r : Int64) (u' : σ) : Int64 → σ → Prop := fun x w => x = r ∧ w = u'
def gw_Pv (u' : σ) : σ → Prop := fun w => w = u'
def gw_W (w : σ) (t : State) : Prop := va_P D cl (wd w) t.heap
def gw_Mi (l : Launch) (y : MethodName) (ws : List Cond) (rm : Room) (sz : Nat) (u : σ) (As : List Value) (r : Int32) (u' : σ) : Prop :=
  Met l y ws rm (va_Pc As (gw_pre D cl tys as X wd sz u)) (va_Qi (gw_Pi r u') (gw_W D cl wd) (rg as sz)) 0 0 (rg as sz)
def gw_Ml (l : Launch) (y : MethodName) (ws : List Cond) (rm : Room) (sz : Nat) (u : σ) (As : List Value) (r : Int64) (u' : σ) : Prop :=
  Met l y ws rm (va_Pc As (gw_pre D cl tys as X wd sz u)) (va_Ql (gw_Pl r u') (gw_W D cl wd) (rg as sz)) 0 0 (rg as sz)
def gw_Mv (l : Launch) (y : MethodName) (ws : List Cond) (rm : Room) (sz : Nat) (u : σ) (As : List Value) (u' : σ) : Prop :=
  Met l y ws rm (va_Pc As (gw_pre D cl tys as X wd sz u)) (va_Qv (gw_Pv u') (gw_W D cl wd) (rg as sz)) 0 0 (rg as sz)
end GWM
abbrev gw_Ei {σ : Type} (D : va_G) (cl : List vw_C) (as : List Nat) (wd : σ → va_W) (below : List Frame) (args : Array Value) (s : State) (r : Int32) (u' : σ) : State → Prop := MQ below (va_Qi (gw_Pi r u') (gw_W D cl wd) (rg as s.heap.size)) args s 0 0 (rg as s.heap.size)
abbrev gw_El {σ : Type} (D : va_G) (cl : List vw_C) (as : List Nat) (wd : σ → va_W) (below : List Frame) (args : Array Value) (s : State) (r : Int64) (u' : σ) : State → Prop := MQ below (va_Ql (gw_Pl r u') (gw_W D cl wd) (rg as s.heap.size)) args s 0 0 (rg as s.heap.size)
abbrev gw_Ev {σ : Type} (D : va_G) (cl : List vw_C) (as : List Nat) (wd : σ → va_W) (below : List Frame) (args : Array Value) (s : State) (u' : σ) : State → Prop := MQ below (va_Qv (gw_Pv u') (gw_W D cl wd) (rg as s.heap.size)) args s 0 0 (rg as s.heap.size)
section GWR
variable {σ : Type} {p : Program} {l : Launch} {e : Env} {R : Room} {s : State} {m : MethodId} {args : Array Value} {below : List Frame} {meth : Method} {c : Code} {H : Heap} {locs : List Loc} {cells slots : Nat} {Q : State → Prop}
variable {cc : ByteArray} {pc : Nat} {ls : Array Slot} {rest st0 : List Value} {a : Array Value}
variable {D : va_G} {cl : List vw_C} {tys : List (ClassId × FieldType)} {as : List Nat} {X : (Nat → Prop) → State → Heap → Prop} {wd : σ → va_W} {u u' : σ}
theorem gw_nmi {x v : Int32} (h : v = x) (k : W p l e R s m args below meth c H locs cells slots Q (F0 m pc ls (.int v :: rest))) : W p l e R s m args below meth c H locs cells slots Q (F0 m pc ls (.int x :: rest)) := h ▸ k
theorem gw_nml {x v : Int64} (h : v = x) (k : W p l e R s m args below meth c H locs cells slots Q (F0 m pc ls (.long v :: rest))) : W p l e R s m args below meth c H locs cells slots Q (F0 m pc ls (.long x :: rest)) := h ▸ k
theorem gw_iast (hexec : p.tables.exec = Jvm.exec) (hb : c.code = cc) (hw : ∀ u, (wd u).map Prod.fst = as) (C : gw_C D cl tys as X s) (V : gw_V D cl as wd s u H locs) (q0 t0 : Nat) {b : Nat} {cA : ClassId} {n : Nat} {f : Nat → Int32} {i x : Int32} (ha : (wd u)[q0]? = some (b, .inl (cA, n, .inl f))) (ht : tys[t0]? = some (cA, .int)) (hin : vp_in i n)
    (hset : (wd u).set q0 (b, .inl (cA, n, .inl (upd f i.toNatClampNeg x))) = wd u') (hdg : decode cc pc = .ok (.iastore, 1))
    (kk : ∀ (H : Heap) (locs : List Loc), gw_V D cl as wd s u' H locs → W p l e R s m args below meth c H locs cells slots Q (F0 m (pc + 1) ls rest)) : W p l e R s m args below meth c H locs cells slots Q (F0 m pc ls (.int x :: .int i :: .ref b :: rest)) :=
  va_iast hexec hb C.1 V.1 (gw_D (hw u) C.2.1 _) V.2 q0 t0 ha ht hin hdg (fun H1 locs1 hP _ hS => kk H1 locs1 ⟨by rw [← hset]; exact hP, hS⟩)
theorem gw_put (hexec : p.tables.exec = Jvm.exec) (hb : c.code = cc) {own ref C : String} {T : u_T} {N ci index : Nat} {Ts : List Cond} (hts : ∀ w ∈ Ts, w.before args s = true) (hin : ∀ w ∈ u_ws C T N, w ∈ Ts) (ty0 : Nat → FieldType) (hty : ∀ k, k < N → parseFieldDescriptor (T k).2.2.1 = some (ty0 k)) (hnm : ∀ a, a < N → ∀ b, b < N → a ≠ b → (T a).2.1 ≠ (T b).2.1) (hown : s.vm.findClass own = some m.cls)
    (hw : ∀ u, (wd u).map Prod.fst = as) (C0 : gw_C D cl tys as X s) (V : gw_V D cl as wd s u H locs) (q0 : Nat) {b : Nat} {fs : List Value} (he : (wd u)[q0]? = some (b, .inr (ci, fs))) (hc : cl[ci]? = some (C, T, N)) (k : Nat) (hk : k < N) (hlink : (Cond.fieldLink own index ref (T k).2.1 (T k).2.2.1).before args s = true)
    (hsame : ∀ x, s.fieldFound? (T k).1 (T k).2.1 (T k).2.2.1 = some x → s.fieldFound? ref (T k).2.1 (T k).2.2.1 = some x) (hfin : (T k).2.2.2 = false) {v : Int32} (hd : parseFieldDescriptor (T k).2.2.1 = some .int) (hl : k < fs.length)
    (hset : (wd u).set q0 (b, .inr (ci, fs.set k (.int v))) = wd u') (hdg : decode cc pc = .ok (.putfield index, 3))
    (kk : ∀ (H : Heap) (locs : List Loc), gw_V D cl as wd s u' H locs → W p l e R s m args below meth c H locs cells slots Q (F0 m (pc + 3) ls rest)) : W p l e R s m args below meth c H locs cells slots Q (F0 m pc ls (.int v :: .ref b :: rest)) :=
  va_put hexec hb hts hin ty0 hty hnm hown C0.1 V.1 (gw_D (hw u) C0.2.1 _) V.2 q0 he hc k hk hlink hsame hfin hd rfl rfl hl hdg (fun H1 locs1 hP _ hS => kk H1 locs1 ⟨by rw [← hset]; exact hP, hS⟩)
theorem gw_ki {r : Int32} (V : gw_V D cl as wd s u H locs) (hr : va_Run p l e R s m args below meth c H locs cells slots 0 0 (F0 m pc ls st0) rest (va_Qi (gw_Pi r u') (gw_W D cl wd) (rg as H.size) a) (rg as H.size))
    (kk : ∀ (H : Heap) (locs : List Loc), gw_V D cl as wd s u' H locs → W p l e R s m args below meth c H locs cells slots Q (F0 m (pc + 3) ls (.int r :: rest))) : W p l e R s m args below meth c H locs cells slots Q (F0 m pc ls st0) := by
  refine va_calli hr V.2 (fun q _ h => rg_mono V.2.1 h) (fun q h => rg_mono V.2.1 h) (fun x w t H1 locs1 ht hvm hp hB hz hk hS => ?_)
  obtain ⟨rfl, rfl⟩ := hp
  exact kk H1 locs1 ⟨by rw [← ht]; exact hB, hS⟩
theorem gw_kl {r : Int64} (V : gw_V D cl as wd s u H locs) (hr : va_Run p l e R s m args below meth c H locs cells slots 0 0 (F0 m pc ls st0) rest (va_Ql (gw_Pl r u') (gw_W D cl wd) (rg as H.size) a) (rg as H.size))
    (kk : ∀ (H : Heap) (locs : List Loc), gw_V D cl as wd s u' H locs → W p l e R s m args below meth c H locs cells slots Q (F0 m (pc + 3) ls (.long r :: rest))) : W p l e R s m args below meth c H locs cells slots Q (F0 m pc ls st0) := by
  refine va_calll hr V.2 (fun q _ h => rg_mono V.2.1 h) (fun q h => rg_mono V.2.1 h) (fun x w t H1 locs1 ht hvm hp hB hz hk hS => ?_)
  obtain ⟨rfl, rfl⟩ := hp
  exact kk H1 locs1 ⟨by rw [← ht]; exact hB, hS⟩
theorem gw_kv (V : gw_V D cl as wd s u H locs) (hr : va_Run p l e R s m args below meth c H locs cells slots 0 0 (F0 m pc ls st0) rest (va_Qv (gw_Pv u') (gw_W D cl wd) (rg as H.size) a) (rg as H.size))
    (kk : ∀ (H : Heap) (locs : List Loc), gw_V D cl as wd s u' H locs → W p l e R s m args below meth c H locs cells slots Q (F0 m (pc + 3) ls rest)) : W p l e R s m args below meth c H locs cells slots Q (F0 m pc ls st0) := by
  refine va_callv hr V.2 (fun q _ h => rg_mono V.2.1 h) (fun q h => rg_mono V.2.1 h) (fun w t H1 locs1 ht hvm hp hB hz hk hS => ?_)
  obtain rfl := hp
  exact kk H1 locs1 ⟨by rw [← ht]; exact hB, hS⟩
theorem gw_reti {v r : Int32} {ty : FieldType} (hexec : p.tables.exec = Jvm.exec) (hb : c.code = cc) (hr : meth.sig.returnType = some ty) (hn : narrow ty (.int v) = .int v) (hlk : meth.locks = false) (V : gw_V D cl as wd s u H locs) (hv : v = r) (hu : u = u') (hdg : decode cc pc = .ok (.ireturn, 1)) :
    W p l e R s m args below meth c H locs cells slots (MQ below (va_Qi (gw_Pi r u') (gw_W D cl wd) (rg as s.heap.size)) args s cells slots (rg as s.heap.size)) (F0 m pc ls [.int v]) := by
  subst hv; subst hu
  exact W.zret hexec hb hr hn (fun t ht _ => ⟨⟨v, u, rfl, ⟨rfl, rfl⟩, by show va_P D cl (wd u) t.heap; rw [ht]; exact V.1⟩, V.2.F ht⟩) V.2.2.2 hdg hlk
theorem gw_retl {v r : Int64} (hexec : p.tables.exec = Jvm.exec) (hb : c.code = cc) (hr : meth.sig.returnType = some .long) (hlk : meth.locks = false) (V : gw_V D cl as wd s u H locs) (hv : v = r) (hu : u = u') (hdg : decode cc pc = .ok (.lreturn, 1)) :
    W p l e R s m args below meth c H locs cells slots (MQ below (va_Ql (gw_Pl r u') (gw_W D cl wd) (rg as s.heap.size)) args s cells slots (rg as s.heap.size)) (F0 m pc ls [.long v]) := by
  subst hv; subst hu
  exact W.lret hexec hb hr (fun t ht _ => ⟨⟨v, u, rfl, ⟨rfl, rfl⟩, by show va_P D cl (wd u) t.heap; rw [ht]; exact V.1⟩, V.2.F ht⟩) V.2.2.2 hdg hlk
theorem gw_retv (hexec : p.tables.exec = Jvm.exec) (hb : c.code = cc) (hr : meth.sig.returnType = none) (hlk : meth.locks = false) (V : gw_V D cl as wd s u H locs) (hu : u = u') (hdg : decode cc pc = .ok (.return_, 1)) :
    W p l e R s m args below meth c H locs cells slots (MQ below (va_Qv (gw_Pv u') (gw_W D cl wd) (rg as s.heap.size)) args s cells slots (rg as s.heap.size)) (F0 m pc ls []) := by
  subst hu
  exact W.vret hexec hb hr (fun t ht _ => ⟨⟨u, rfl, rfl, by show va_P D cl (wd u) t.heap; rw [ht]; exact V.1⟩, V.2.F ht⟩) V.2.2.2 hdg hlk
end GWR
def gw_B (p : Program) (s : State) (m : MethodId) (args : Array Value) (meth : Method) (c : Code) (cc : ByteArray) (nL : Nat) (ret : Option FieldType) (own : String) (Ts : List Cond) : Prop :=
  p.tables.exec = Jvm.exec ∧ c.code = cc ∧ c.maxLocals = nL ∧ s.vm.findClass own = some m.cls ∧ (∀ w ∈ Ts, w.before args s = true) ∧ meth.sig.returnType = ret ∧ meth.locks = false
section GWE
variable {σ : Type} {l : Launch} {y : MethodName} {ws ws' : List Cond} {rm : Room} {cc : ByteArray} {maxL : Nat} {ret : Option FieldType} {D : va_G} {cl : List vw_C} {tys : List (ClassId × FieldType)} {as : List Nat} {X : (Nat → Prop) → State → Heap → Prop} {wd : σ → va_W} {u u' : σ} {sz : Nat} {As : List Value}
theorem gw_Mof {Qc : Nat → Array Value → State → Outcome → State → Prop} {mc ms : Nat} (hy : plainName y.cls = true) (hw : ws = Cond.code y cc maxL ret :: ws')
    (body : ∀ (p : Program) (e : Env) (s : State) (m : MethodId) (below : List Frame) (meth : Method) (c : Code), gw_B p s m As.toArray meth c cc maxL ret y.cls ws' → gw_C D cl tys as X s → gw_V D cl as wd s u s.heap [] →
      W p l e rm s m As.toArray below meth c s.heap [] 0 0 (MQ below (Qc s.heap.size) As.toArray s mc ms (rg as s.heap.size)) (entryFrame m As.toArray maxL)) :
    Met l y ws rm (va_Pc As (gw_pre D cl tys as X wd sz u)) (Qc sz) mc ms (rg as sz) := by
  refine Met.ofW (cc := cc) (maxL := maxL) (ret := ret) hy hw ?_
  intro p e s m args below meth c s₁ B hml hv
  obtain ⟨rfl, rfl, hP, C⟩ := hv
  exact body p e s m below meth c ⟨B.exec, B.bytes, hml, findClass_of_methodNamed B.named, fun w h => atoms_spec (ws := ws) B.pre w (by rw [hw]; exact List.mem_cons_of_mem _ h), B.returns, B.notSynchronized⟩ C ⟨hP, va_S.rf⟩
end GWE
end
section
section GXM
variable {σ : Type} (D : va_G) (cl : List vw_C) (tys : List (ClassId × FieldType)) (as : List Nat) (X : (Nat → Prop) → State → Heap → Prop) (wd : σ → va_W)
def gx_Pi (k : Nat) (r : Int32) (u' : σ) : Int32 → σ → Prop := fun x w => k = 0 ∧ x = r ∧ w = u'
def gx_Pv (k : Nat) (u' : σ) : σ → Prop := fun w => k = 0 ∧ w = u'
def gx_Px (k : Nat) (u' : σ) : σ → Prop := fun w => ¬ k = 0 ∧ w = u'
def gx_W (k : Nat) (E : String) (w : σ) (t : State) : Prop := E = exN k ∧ va_P D cl (wd w) t.heap
def gx_Mi (l : Launch) (y : MethodName) (ws : List Cond) (rm : Room) (mc ms sz : Nat) (u : σ) (As : List Value) (k : Nat) (r : Int32) (u' : σ) : Prop :=
  vx_Met l y ws rm (va_Pc As (gw_pre D cl tys as X wd sz u)) (va_Qi (gx_Pi k r u') (gw_W D cl wd) (rg as sz)) (vx_X (gx_Px k u') (gx_W D cl wd k) (rg as sz)) mc ms (rg as sz)
def gx_Mv (l : Launch) (y : MethodName) (ws : List Cond) (rm : Room) (mc ms sz : Nat) (u : σ) (As : List Value) (k : Nat) (u' : σ) : Prop :=
  vx_Met l y ws rm (va_Pc As (gw_pre D cl tys as X wd sz u)) (va_Qv (gx_Pv k u') (gw_W D cl wd) (rg as sz)) (vx_X (gx_Px k u') (gx_W D cl wd k) (rg as sz)) mc ms (rg as sz)
end GXM
abbrev gx_Ei {σ : Type} (D : va_G) (cl : List vw_C) (as : List Nat) (wd : σ → va_W) (below : List Frame) (args : Array Value) (s : State) (mc ms k : Nat) (r : Int32) (u' : σ) : State → Prop := vx_MQ below (va_Qi (gx_Pi k r u') (gw_W D cl wd) (rg as s.heap.size)) (vx_X (gx_Px k u') (gx_W D cl wd k) (rg as s.heap.size)) args s mc ms (rg as s.heap.size)
abbrev gx_Ev {σ : Type} (D : va_G) (cl : List vw_C) (as : List Nat) (wd : σ → va_W) (below : List Frame) (args : Array Value) (s : State) (mc ms k : Nat) (u' : σ) : State → Prop := vx_MQ below (va_Qv (gx_Pv k u') (gw_W D cl wd) (rg as s.heap.size)) (vx_X (gx_Px k u') (gx_W D cl wd k) (rg as s.heap.size)) args s mc ms (rg as s.heap.size)
section GXR
variable {σ : Type} {p : Program} {l : Launch} {e : Env} {R : Room} {s : State} {m : MethodId} {args : Array Value} {below : List Frame} {meth : Method} {c : Code} {H : Heap} {locs : List Loc} {cells slots mc ms : Nat} {Q : State → Prop}
variable {cc : ByteArray} {pc : Nat} {ls : Array Slot} {rest st0 : List Value} {a : Array Value}
variable {D : va_G} {cl : List vw_C} {tys : List (ClassId × FieldType)} {as : List Nat} {X : (Nat → Prop) → State → Heap → Prop} {wd : σ → va_W} {u u' : σ} {k : Nat}
def gx_at (s : State) (k : Nat) (ce : Cell) (q : Addr) (H : Heap) : Prop := H[q]? = some ce ∧ ce.vm = .none ∧ s.vm.findClass (exN k) = some ce.cls
theorem gx_ki {r : Int32} (V : gw_V D cl as wd s u H locs) (hr : vx_Run p l e R s m args below meth c H locs cells slots mc ms (F0 m pc ls st0) rest (va_Qi (gx_Pi k r u') (gw_W D cl wd) (rg as H.size) a) (vx_X (gx_Px k u') (gx_W D cl wd k) (rg as H.size)) (rg as H.size))
    (kx : ¬ k = 0 → ∀ (H : Heap) (locs : List Loc) (ce : Cell) (q : Addr), gw_V D cl as wd s u' H locs → gx_at s k ce q H → vx_W p l e R s m args below meth c H locs (cells + mc) (slots + ms) Q (F0 m pc ls rest) q)
    (kk : k = 0 → ∀ (H : Heap) (locs : List Loc), gw_V D cl as wd s u' H locs → W p l e R s m args below meth c H locs (cells + mc) (slots + ms) Q (F0 m (pc + 3) ls (.int r :: rest))) : W p l e R s m args below meth c H locs cells slots Q (F0 m pc ls st0) := by
  refine vx_calli hr V.2 (fun q _ h => rg_mono V.2.1 h) (fun q h => rg_mono V.2.1 h) (fun q _ h => rg_mono V.2.1 h) (fun E ce q9 w t H1 locs1 ht hvm hp hB hz hk hS h1 h2 h3 => ?_) (fun x w t H1 locs1 ht hvm hp hB hz hk hS => ?_)
  · obtain ⟨hk0, rfl⟩ := hp
    obtain ⟨rfl, hB⟩ := hB
    exact kx hk0 H1 locs1 ce q9 ⟨by rw [← ht]; exact hB, hS⟩ ⟨h1, h2, h3⟩
  · obtain ⟨hk0, rfl, rfl⟩ := hp
    exact kk hk0 H1 locs1 ⟨by rw [← ht]; exact hB, hS⟩
theorem gx_kv (V : gw_V D cl as wd s u H locs) (hr : vx_Run p l e R s m args below meth c H locs cells slots mc ms (F0 m pc ls st0) rest (va_Qv (gx_Pv k u') (gw_W D cl wd) (rg as H.size) a) (vx_X (gx_Px k u') (gx_W D cl wd k) (rg as H.size)) (rg as H.size))
    (kx : ¬ k = 0 → ∀ (H : Heap) (locs : List Loc) (ce : Cell) (q : Addr), gw_V D cl as wd s u' H locs → gx_at s k ce q H → vx_W p l e R s m args below meth c H locs (cells + mc) (slots + ms) Q (F0 m pc ls rest) q)
    (kk : k = 0 → ∀ (H : Heap) (locs : List Loc), gw_V D cl as wd s u' H locs → W p l e R s m args below meth c H locs (cells + mc) (slots + ms) Q (F0 m (pc + 3) ls rest)) : W p l e R s m args below meth c H locs cells slots Q (F0 m pc ls st0) := by
  refine vx_callv hr V.2 (fun q _ h => rg_mono V.2.1 h) (fun q h => rg_mono V.2.1 h) (fun q _ h => rg_mono V.2.1 h) (fun E ce q9 w t H1 locs1 ht hvm hp hB hz hk hS h1 h2 h3 => ?_) (fun w t H1 locs1 ht hvm hp hB hz hk hS => ?_)
  · obtain ⟨hk0, rfl⟩ := hp
    obtain ⟨rfl, hB⟩ := hB
    exact kx hk0 H1 locs1 ce q9 ⟨by rw [← ht]; exact hB, hS⟩ ⟨h1, h2, h3⟩
  · obtain ⟨hk0, rfl⟩ := hp
    exact kk hk0 H1 locs1 ⟨by rw [← ht]; exact hB, hS⟩
theorem gx_out {Qc : Array Value → State → Outcome → State → Prop} {ce : Cell} {q : Addr} {k' : Nat} (htab : ∀ x ∈ c.exceptionTable.toList, False) (hlk : meth.locks = false) (V : gw_V D cl as wd s u H locs) (hat : gx_at s k ce q H) (h0 : ¬ k = 0) (hk : k = k') (hu : u = u') (hc : cells ≤ mc) (hs : slots ≤ ms) :
    vx_W p l e R s m args below meth c H locs cells slots (vx_MQ below Qc (vx_X (gx_Px k' u') (gx_W D cl wd k') (rg as s.heap.size)) args s mc ms (rg as s.heap.size)) (F0 m pc ls rest) q := by
  subst hk; subst hu
  exact vx_out (fun x hx => (htab x hx).elim) hlk hat.1 hat.2.1 hat.2.2 (fun t ht _ => ⟨u, ⟨h0, rfl⟩, ⟨rfl, by rw [ht]; exact V.1⟩, V.2.F ht⟩) V.2.2.2 hc hs
theorem gx_reti {XC : String → State → State → Prop} {v r : Int32} {ty : FieldType} (hexec : p.tables.exec = Jvm.exec) (hb : c.code = cc) (hr : meth.sig.returnType = some ty) (hn : narrow ty (.int v) = .int v) (hlk : meth.locks = false) (V : gw_V D cl as wd s u H locs) (hk : k = 0) (hv : v = r) (hu : u = u') (hc : cells ≤ mc) (hs : slots ≤ ms) (hdg : decode cc pc = .ok (.ireturn, 1)) :
    W p l e R s m args below meth c H locs cells slots (vx_MQ below (va_Qi (gx_Pi k r u') (gw_W D cl wd) (rg as s.heap.size)) XC args s mc ms (rg as s.heap.size)) (F0 m pc ls [.int v]) := by
  subst hv; subst hu
  refine W.widen hc hs (vx_ret ?_)
  exact W.zret hexec hb hr hn (fun t ht _ => ⟨⟨v, u, rfl, ⟨hk, rfl, rfl⟩, by show va_P D cl (wd u) t.heap; rw [ht]; exact V.1⟩, V.2.F ht⟩) V.2.2.2 hdg hlk
theorem gx_retv {XC : String → State → State → Prop} (hexec : p.tables.exec = Jvm.exec) (hb : c.code = cc) (hr : meth.sig.returnType = none) (hlk : meth.locks = false) (V : gw_V D cl as wd s u H locs) (hk : k = 0) (hu : u = u') (hc : cells ≤ mc) (hs : slots ≤ ms) (hdg : decode cc pc = .ok (.return_, 1)) :
    W p l e R s m args below meth c H locs cells slots (vx_MQ below (va_Qv (gx_Pv k u') (gw_W D cl wd) (rg as s.heap.size)) XC args s mc ms (rg as s.heap.size)) (F0 m pc ls []) := by
  subst hu
  refine W.widen hc hs (vx_ret ?_)
  exact W.vret hexec hb hr (fun t ht _ => ⟨⟨u, rfl, ⟨hk, rfl⟩, by show va_P D cl (wd u) t.heap; rw [ht]; exact V.1⟩, V.2.F ht⟩) V.2.2.2 hdg hlk
theorem gx_thr {Qc : Array Value → State → Outcome → State → Prop} {k' nL : Nat} {own E text : String} {names : List String} {ik is ic sa : Nat} {Ts Bs : List Cond} (hexec : p.tables.exec = Jvm.exec) (hb : c.code = cc) (hl9 : l.stackTraces = false) (hown : s.vm.findClass own = some m.cls) (hts : ∀ w ∈ Ts, w.before args s = true)
    (hfit : Bundle.fit E = true) (hfn : ∀ n ∈ names, Bundle.fit n = true) (h1 : Cond.classLink own ik E ∈ Ts) (h2 : Cond.initialized E ∈ Ts) (hA : ∀ w ∈ (vx_atS own ic E names).filter goodWord, w ∈ Ts) (hB : ∀ w ∈ (vx_atS own ic E names).filter (fun w => !goodWord w), w ∈ Bs) (hBs : ∀ w ∈ Bs, w.before args s = true)
    (hG : ∀ w ∈ Cond.classLink own ik E :: Cond.initialized E :: vx_atS own ic E names, vx_ot w = true) (hstr : vk_R own is text sa s) (hU : vx_Zq Bundle.tN "UNASSIGNED_STACK" Bundle.steD (rg as s.heap.size) s s.heap) (hN : vx_Zq Bundle.tN "SUPPRESSED_SENTINEL" Bundle.listD (rg as s.heap.size) s s.heap)
    (V : gw_V D cl as wd s u H locs) (htab : ∀ x ∈ c.exceptionTable.toList, False) (hsz : ls.size = nL) (hml : c.maxLocals = nL) (hlk : meth.locks = false) (hE : E = exN k') (h0 : ¬ k' = 0) (hu : u = u')
    (d0 : decode cc pc = .ok (.new ik, 3)) (d3 : decode cc (pc + 3) = .ok (.dup, 1)) (d4 : decode cc (pc + 4) = .ok (.ldc is, 2)) (d6 : decode cc (pc + 6) = .ok (.invokespecial ic, 3)) (d9 : decode cc (pc + 9) = .ok (.athrow, 1))
    (hRf : names.length + 3 < R.frames) (hRl : (rest.map fun v => v.category).sum + (13 * (names.length + 1) + 43) ≤ R.locals) (hRc : cells + 1 ≤ R.cells) (hRs : slots + 6 ≤ R.slots) (hc : cells + 1 ≤ mc) (hs : slots + 6 ≤ ms) :
    W p l e R s m args below meth c H locs cells slots (vx_MQ below Qc (vx_X (gx_Px k' u') (gx_W D cl wd k') (rg as s.heap.size)) args s mc ms (rg as s.heap.size)) (F0 m pc ls rest) := by
  subst hu
  refine vx_throwS hexec hb hl9 hown hfit hfn (hts _ h1) (hts _ h2) hstr (vx_hat (fun w hw => hts w (hA w hw)) hB hBs) hG hU hN V.2 (hsz.trans hml.symm) d0 d3 d4 d6 d9 (fun x hx => (htab x hx).elim) hRf hRl hRc hRs hlk (fun t _ hz hk => ?_) V.2.2.2 hc hs
  refine ⟨u, ⟨h0, rfl⟩, ⟨hE, ?_⟩, ?_⟩
  · exact V.1.kept (fun j q hq => hk q.1 (V.1 j q hq).lt)
  · exact ⟨Nat.le_trans V.2.1 hz, fun q h1 h2 => by rw [hk q (Nat.lt_of_lt_of_le h1 V.2.1)]; exact V.2.2.1 q h1 h2⟩
end GXR
section GXE
variable {σ : Type} {l : Launch} {y : MethodName} {ws ws' : List Cond} {rm : Room} {cc : ByteArray} {maxL : Nat} {ret : Option FieldType} {D : va_G} {cl : List vw_C} {tys : List (ClassId × FieldType)} {as : List Nat} {X : (Nat → Prop) → State → Heap → Prop} {wd : σ → va_W} {u : σ} {sz : Nat} {As : List Value}
theorem gx_Mof {Qc : Nat → Array Value → State → Outcome → State → Prop} {XC : Nat → String → State → State → Prop} {mc ms : Nat} (hy : plainName y.cls = true) (hw : ws = Cond.code y cc maxL ret :: ws')
    (body : ∀ (p : Program) (e : Env) (s : State) (m : MethodId) (below : List Frame) (meth : Method) (c : Code), gw_B p s m As.toArray meth c cc maxL ret y.cls ws' → (∀ x ∈ c.exceptionTable.toList, False) → gw_C D cl tys as X s → gw_V D cl as wd s u s.heap [] →
      W p l e rm s m As.toArray below meth c s.heap [] 0 0 (vx_MQ below (Qc s.heap.size) (XC s.heap.size) As.toArray s mc ms (rg as s.heap.size)) (entryFrame m As.toArray maxL)) :
    vx_Met l y ws rm (va_Pc As (gw_pre D cl tys as X wd sz u)) (Qc sz) (XC sz) mc ms (rg as sz) := by
  refine vx_ofW (cc := cc) (maxL := maxL) (ret := ret) hy hw ?_
  intro p e s m args below meth c s₁ B hml htab hv
  obtain ⟨rfl, rfl, hP, C⟩ := hv
  exact body p e s m below meth c ⟨B.exec, B.bytes, hml, findClass_of_methodNamed B.named, fun w h => atoms_spec (ws := ws) B.pre w (by rw [hw]; exact List.mem_cons_of_mem _ h), B.returns, B.notSynchronized⟩ htab C ⟨hP, va_S.rf⟩
end GXE
end
section
theorem gs_left {D : va_G} {cl : List vw_C} {w r : va_W} {H : Heap} (h : va_P D cl (w ++ r) H) : va_P D cl w H := fun k q hk => h k q (by rw [List.getElem?_append_left (List.getElem?_eq_some_iff.mp hk).1]; exact hk)
theorem gs_right {D : va_G} {cl : List vw_C} {w r : va_W} {H : Heap} (h : va_P D cl (w ++ r) H) : va_P D cl r H := fun k q hk => h (w.length + k) q (by rw [List.getElem?_append_right (Nat.le_add_right _ _), Nat.add_sub_cancel_left]; exact hk)
theorem gs_app {D : va_G} {cl : List vw_C} {w r : va_W} {H : Heap} (h1 : va_P D cl w H) (h2 : va_P D cl r H) : va_P D cl (w ++ r) H := fun k q hk => by
  rcases Nat.lt_or_ge k w.length with h | h
  · rw [List.getElem?_append_left h] at hk; exact h1 k q hk
  · rw [List.getElem?_append_right h] at hk; exact h2 _ q hk
theorem gs_kept {D : va_G} {cl : List vw_C} {r : va_W} {as ar : List Nat} {H H1 : Heap} (hr : r.map Prod.fst = ar) (hd : ∀ q ∈ ar, q ∉ as) (h : va_P D cl r H) (hk : ∀ q : Nat, q < H.size → ¬ rg as H.size q → H1[q]? = H[q]?) : va_P D cl r H1 :=
  h.kept (fun k q hq => hk q.1 (h k q hq).lt (fun z => z.elim (hd q.1 (by rw [← hr]; exact List.mem_map.mpr ⟨q, List.mem_of_getElem? hq, rfl⟩)) (fun z => absurd (h k q hq).lt (Nat.not_lt.mpr z))))
section GS
variable {σ τ : Type} {p : Program} {l : Launch} {e : Env} {R : Room} {s : State} {m : MethodId} {args : Array Value} {below : List Frame} {meth : Method} {c : Code} {H : Heap} {locs : List Loc} {cells slots mc ms : Nat} {Q : State → Prop}
variable {pc : Nat} {ls : Array Slot} {rest st0 : List Value} {a : Array Value}
variable {D : va_G} {cl : List vw_C} {tys tys2 : List (ClassId × FieldType)} {as ar as2 : List Nat} {X : (Nat → Prop) → State → Heap → Prop} {wd : σ → va_W} {u u' : σ} {r : va_W} {w1 w2 : va_W}
theorem gs_pre (hX : gw_ok X) (hK : va_K D cl tys s) (hn : as.Nodup) (hx : X (rg as2 s.heap.size) s s.heap) (hP : va_P D cl (wd u) H) (hS : va_S (rg as2 s.heap.size) s.heap H locs) (hle : ∀ q ∈ as, q ∈ as2) (U : State) (hU : U.heap = H) (hW : s.WarmedH U.vm) : gw_pre D cl tys as X wd H.size u U := by
  subst hU
  refine ⟨rfl, hP, va_K.moved hW.alike hK, hn, ?_⟩
  have h1 := hX.2.2.1 _ s s.heap U.heap hS.2.1 hx
  have h2 := hX.2.2.2 _ (rg as U.heap.size) s U.heap (fun q h => h.elim (fun z => Or.inl (hle q z)) (fun z => Or.inr (Nat.le_trans hS.1 z))) h1
  exact hX.2.1 _ s U _ hW h2
theorem gs_preS (hX : gw_ok X) (hK : va_K D cl tys s) (hn : as.Nodup) (hx : X (rg as2 s.heap.size) s s.heap) (hP : va_P D cl (wd u) H) (hS : va_S (rg as2 s.heap.size) s.heap H locs) (hle : ∀ q ∈ as, q ∈ as2) (As : List Value) : PreS s H (va_Pc As (gw_pre D cl tys as X wd H.size u)) As :=
  ⟨gw_blind hX, fun U hU hW => ⟨rfl, gs_pre hX hK hn hx hP hS hle U hU hW⟩⟩
theorem gs_preV (hX : gw_ok X) (hK : va_K D cl tys s) (hn : as.Nodup) (hx : X (rg as2 s.heap.size) s s.heap) (hP : va_P D cl (wd u) H) (hS : va_S (rg as2 s.heap.size) s.heap H locs) (hle : ∀ q ∈ as, q ∈ as2) {b q0 ci : Nat} {q : vw_C} {fs : List Value} (As : List Value) (hc : cl[ci]? = some q) (he : (wd u)[q0]? = some (b, .inr (ci, fs))) : PreV s H q.1 b (va_Pc (Value.ref b :: As) (gw_pre D cl tys as X wd H.size u)) As :=
  ⟨gw_blind hX, va_recv hK hP hc he, fun U hU hW => ⟨rfl, gs_pre hX hK hn hx hP hS hle U hU hW⟩⟩
theorem gs_ki {v : Int32} (hS : va_S (rg as2 s.heap.size) s.heap H locs) (hle : ∀ q ∈ as, q ∈ as2) (hr : va_Run p l e R s m args below meth c H locs cells slots mc ms (F0 m pc ls st0) rest (va_Qi (gw_Pi v u') (gw_W D cl wd) (rg as H.size) a) (rg as H.size))
    (hj : ∀ H1 : Heap, va_P D cl (wd u') H1 → (∀ q : Nat, q < H.size → ¬ rg as H.size q → H1[q]? = H[q]?) → va_P D cl w2 H1)
    (kk : ∀ (H : Heap) (locs : List Loc), va_P D cl w2 H → va_S (rg as2 s.heap.size) s.heap H locs → W p l e R s m args below meth c H locs (cells + mc) (slots + ms) Q (F0 m (pc + 3) ls (.int v :: rest))) : W p l e R s m args below meth c H locs cells slots Q (F0 m pc ls st0) := by
  have hin : ∀ q, rg as H.size q → rg as2 s.heap.size q := fun q h => h.elim (fun z => Or.inl (hle q z)) (fun z => Or.inr (Nat.le_trans hS.1 z))
  refine va_calli hr hS (fun q _ h => hin q h) hin (fun x w t H1 locs1 ht hvm hp hB hz hk hS => ?_)
  obtain ⟨rfl, rfl⟩ := hp
  exact kk H1 locs1 (hj H1 (by rw [← ht]; exact hB) hk) hS
theorem gs_kv (hS : va_S (rg as2 s.heap.size) s.heap H locs) (hle : ∀ q ∈ as, q ∈ as2) (hr : va_Run p l e R s m args below meth c H locs cells slots 0 0 (F0 m pc ls st0) rest (va_Qv (gw_Pv u') (gw_W D cl wd) (rg as H.size) a) (rg as H.size))
    (hj : ∀ H1 : Heap, va_P D cl (wd u') H1 → (∀ q : Nat, q < H.size → ¬ rg as H.size q → H1[q]? = H[q]?) → va_P D cl w2 H1)
    (kk : ∀ (H : Heap) (locs : List Loc), va_P D cl w2 H → va_S (rg as2 s.heap.size) s.heap H locs → W p l e R s m args below meth c H locs cells slots Q (F0 m (pc + 3) ls rest)) : W p l e R s m args below meth c H locs cells slots Q (F0 m pc ls st0) := by
  have hin : ∀ q, rg as H.size q → rg as2 s.heap.size q := fun q h => h.elim (fun z => Or.inl (hle q z)) (fun z => Or.inr (Nat.le_trans hS.1 z))
  refine va_callv hr hS (fun q _ h => hin q h) hin (fun w t H1 locs1 ht hvm hp hB hz hk hS => ?_)
  obtain rfl := hp
  exact kk H1 locs1 (hj H1 (by rw [← ht]; exact hB) hk) hS
theorem gs_xki {k : Nat} {v : Int32} (hS : va_S (rg as2 s.heap.size) s.heap H locs) (hle : ∀ q ∈ as, q ∈ as2) (hr : vx_Run p l e R s m args below meth c H locs cells slots mc ms (F0 m pc ls st0) rest (va_Qi (gx_Pi k v u') (gw_W D cl wd) (rg as H.size) a) (vx_X (gx_Px k u') (gx_W D cl wd k) (rg as H.size)) (rg as H.size))
    (hj : ∀ H1 : Heap, va_P D cl (wd u') H1 → (∀ q : Nat, q < H.size → ¬ rg as H.size q → H1[q]? = H[q]?) → va_P D cl w2 H1)
    (kx : ¬ k = 0 → ∀ (H : Heap) (locs : List Loc) (ce : Cell) (q : Addr), va_P D cl w2 H → va_S (rg as2 s.heap.size) s.heap H locs → gx_at s k ce q H → vx_W p l e R s m args below meth c H locs (cells + mc) (slots + ms) Q (F0 m pc ls rest) q)
    (kk : k = 0 → ∀ (H : Heap) (locs : List Loc), va_P D cl w2 H → va_S (rg as2 s.heap.size) s.heap H locs → W p l e R s m args below meth c H locs (cells + mc) (slots + ms) Q (F0 m (pc + 3) ls (.int v :: rest))) : W p l e R s m args below meth c H locs cells slots Q (F0 m pc ls st0) := by
  have hin : ∀ q, rg as H.size q → rg as2 s.heap.size q := fun q h => h.elim (fun z => Or.inl (hle q z)) (fun z => Or.inr (Nat.le_trans hS.1 z))
  refine vx_calli hr hS (fun q _ h => hin q h) hin (fun q _ h => hin q h) (fun E ce q9 w t H1 locs1 ht hvm hp hB hz hk hS h1 h2 h3 => ?_) (fun x w t H1 locs1 ht hvm hp hB hz hk hS => ?_)
  · obtain ⟨hk0, rfl⟩ := hp
    obtain ⟨rfl, hB⟩ := hB
    exact kx hk0 H1 locs1 ce q9 (hj H1 (by rw [← ht]; exact hB) hk) hS ⟨h1, h2, h3⟩
  · obtain ⟨hk0, rfl, rfl⟩ := hp
    exact kk hk0 H1 locs1 (hj H1 (by rw [← ht]; exact hB) hk) hS
theorem gs_xkv {k : Nat} (hS : va_S (rg as2 s.heap.size) s.heap H locs) (hle : ∀ q ∈ as, q ∈ as2) (hr : vx_Run p l e R s m args below meth c H locs cells slots mc ms (F0 m pc ls st0) rest (va_Qv (gx_Pv k u') (gw_W D cl wd) (rg as H.size) a) (vx_X (gx_Px k u') (gx_W D cl wd k) (rg as H.size)) (rg as H.size))
    (hj : ∀ H1 : Heap, va_P D cl (wd u') H1 → (∀ q : Nat, q < H.size → ¬ rg as H.size q → H1[q]? = H[q]?) → va_P D cl w2 H1)
    (kx : ¬ k = 0 → ∀ (H : Heap) (locs : List Loc) (ce : Cell) (q : Addr), va_P D cl w2 H → va_S (rg as2 s.heap.size) s.heap H locs → gx_at s k ce q H → vx_W p l e R s m args below meth c H locs (cells + mc) (slots + ms) Q (F0 m pc ls rest) q)
    (kk : k = 0 → ∀ (H : Heap) (locs : List Loc), va_P D cl w2 H → va_S (rg as2 s.heap.size) s.heap H locs → W p l e R s m args below meth c H locs (cells + mc) (slots + ms) Q (F0 m (pc + 3) ls rest)) : W p l e R s m args below meth c H locs cells slots Q (F0 m pc ls st0) := by
  have hin : ∀ q, rg as H.size q → rg as2 s.heap.size q := fun q h => h.elim (fun z => Or.inl (hle q z)) (fun z => Or.inr (Nat.le_trans hS.1 z))
  refine vx_callv hr hS (fun q _ h => hin q h) hin (fun q _ h => hin q h) (fun E ce q9 w t H1 locs1 ht hvm hp hB hz hk hS h1 h2 h3 => ?_) (fun w t H1 locs1 ht hvm hp hB hz hk hS => ?_)
  · obtain ⟨hk0, rfl⟩ := hp
    obtain ⟨rfl, hB⟩ := hB
    exact kx hk0 H1 locs1 ce q9 (hj H1 (by rw [← ht]; exact hB) hk) hS ⟨h1, h2, h3⟩
  · obtain ⟨hk0, rfl⟩ := hp
    exact kk hk0 H1 locs1 (hj H1 (by rw [← ht]; exact hB) hk) hS
end GS
def gl_M {σ : Type} (D : va_G) (cl : List vw_C) (tys : List (ClassId × FieldType)) (as : List Nat) (X : (Nat → Prop) → State → Heap → Prop) (wd : σ → va_W) (l : Launch) (y : MethodName) (ws : List Cond) (rm : Room) (mc ms sz : Nat) (u : σ) (As : List Value) (r : Int32) (u' : σ) : Prop :=
  Met l y ws rm (va_Pc As (gw_pre D cl tys as X wd sz u)) (va_Qi (gw_Pi r u') (gw_W D cl wd) (rg as sz)) mc ms (rg as sz)
def lwc (cs : List Nat) (k : Nat) : Int32 := if k = 0 then 0 else Int32.ofNat (cs.idxOf k + 1)
section GL
variable {σ : Type} {p : Program} {l : Launch} {e : Env} {R : Room} {s : State} {m : MethodId} {args : Array Value} {below : List Frame} {meth : Method} {c : Code} {H : Heap} {locs : List Loc} {cells slots mc ms : Nat} {Q : State → Prop}
variable {cc : ByteArray} {pc : Nat} {ls : Array Slot} {rest : List Value}
variable {D : va_G} {cl : List vw_C} {tys : List (ClassId × FieldType)} {as : List Nat} {X : (Nat → Prop) → State → Heap → Prop} {wd : σ → va_W} {u u' : σ}
theorem gl_reti {v r : Int32} {ty : FieldType} (hexec : p.tables.exec = Jvm.exec) (hb : c.code = cc) (hr : meth.sig.returnType = some ty) (hn : narrow ty (.int v) = .int v) (hlk : meth.locks = false) (hP : va_P D cl (wd u) H) (hS : va_S (rg as s.heap.size) s.heap H locs) (hv : v = r) (hu : u = u') (hc : cells ≤ mc) (hs : slots ≤ ms) (hdg : decode cc pc = .ok (.ireturn, 1)) :
    W p l e R s m args below meth c H locs cells slots (MQ below (va_Qi (gw_Pi r u') (gw_W D cl wd) (rg as s.heap.size)) args s mc ms (rg as s.heap.size)) (F0 m pc ls [.int v]) := by
  subst hv; subst hu
  refine W.widen hc hs ?_
  exact W.zret hexec hb hr hn (fun t ht _ => ⟨⟨v, u, rfl, ⟨rfl, rfl⟩, by show va_P D cl (wd u) t.heap; rw [ht]; exact hP⟩, hS.F ht⟩) hS.2.2 hdg hlk
theorem gl_last (hexec : p.tables.exec = Jvm.exec) (hb : c.code = cc) (hw : ∀ u, (wd u).map Prod.fst = as) (C : gw_C D cl tys as X s) (hP : va_P D cl (wd u) H) (hS : va_S (rg as s.heap.size) s.heap H locs) (q0 t0 : Nat) {b : Nat} {cA : ClassId} {n : Nat} {f : Nat → Int64} {i : Int32} {x : Int64} (ha : (wd u)[q0]? = some (b, .inl (cA, n, .inr (.inl f)))) (ht : tys[t0]? = some (cA, .long)) (hin : vp_in i n)
    (hset : (wd u).set q0 (b, .inl (cA, n, .inr (.inl (vp_updL f i.toNatClampNeg x)))) = wd u') (hdg : decode cc pc = .ok (.lastore, 1))
    (kk : ∀ (H : Heap) (locs : List Loc), va_P D cl (wd u') H → va_S (rg as s.heap.size) s.heap H locs → W p l e R s m args below meth c H locs cells slots Q (F0 m (pc + 1) ls rest)) : W p l e R s m args below meth c H locs cells slots Q (F0 m pc ls (.long x :: .int i :: .ref b :: rest)) :=
  va_last hexec hb C.1 hP (gw_D (hw u) C.2.1 _) hS q0 t0 ha ht hin hdg (fun H1 locs1 hP _ hS => kk H1 locs1 (by rw [← hset]; exact hP) hS)
end GL
theorem gl_Mof {σ : Type} {l : Launch} {y : MethodName} {ws ws' : List Cond} {rm : Room} {cc : ByteArray} {maxL : Nat} {ret : Option FieldType} {hh : List (Nat × Nat × Nat × Nat)} {D : va_G} {cl : List vw_C} {tys : List (ClassId × FieldType)} {as : List Nat} {X : (Nat → Prop) → State → Heap → Prop} {wd : σ → va_W} {u u' : σ} {sz mc ms : Nat} {As : List Value} {r : Int32} (hy : plainName y.cls = true) (hw : ws = Cond.codeWith y cc maxL ret hh :: ws')
    (body : ∀ (p : Program) (e : Env) (s : State) (m : MethodId) (below : List Frame) (meth : Method) (c : Code), gw_B p s m As.toArray meth c cc maxL ret y.cls ws' → c.exceptionTable.toList = tableOf hh → gw_C D cl tys as X s → va_P D cl (wd u) s.heap →
      W p l e rm s m As.toArray below meth c s.heap [] 0 0 (MQ below (va_Qi (gw_Pi r u') (gw_W D cl wd) (rg as s.heap.size)) As.toArray s mc ms (rg as s.heap.size)) (entryFrame m As.toArray maxL)) :
    gl_M D cl tys as X wd l y ws rm mc ms sz u As r u' := by
  refine va_MetW (cc := cc) (maxL := maxL) (ret := ret) (hh := hh) hy hw ?_
  intro p e s m args below meth c s₁ B hml hv
  obtain ⟨rfl, rfl, hP, C⟩ := hv
  have hts := atoms_spec (ws := ws) B.pre
  exact body p e s m below meth c ⟨B.exec, B.bytes, hml, findClass_of_methodNamed B.named, fun w h => hts w (by rw [hw]; exact List.mem_cons_of_mem _ h), B.returns, B.notSynchronized⟩ (vx_table (x := y) B (hts _ (by rw [hw]; exact List.mem_cons_self))) C hP
end
section
def fcJ_isBelow (p0 : Int32) (p1 : Int32) : Option (Int32) := if p0 < 0 then (some (0 : Int32)) else if p1 ≤ p0 then (some (0 : Int32)) else some (1 : Int32)
def fcJ_needKnown (p0 : Int32) : Option (Nat) := if ¬ p0 = 0 then (some 0) else some 1
def fcJ_needRange (p0 : Int32) : Option (Nat) := if ¬ p0 = 0 then (some 0) else some 2
def fcJ_rule_56 (u : g_S) (x1 : Int32) (x2 : Int32) (x3 : Int32) (x4 : Int32) (x5 : Int32) (y0 : Int32) : Option (Nat × g_S) := (fcJ_needRange y0).bind fun v9 => if v9 = 0 then (ck x1 8 <| gl (g_sA u 0 x1 x2) fun u10 => ck x1 8 <| gl (g_sA u10 1 x1 x3) fun u11 => ck x1 8 <| gl (g_sA u11 2 x1 x4) fun u12 => ck x1 8 <| gl (g_sA u12 3 x1 x5) fun u13 => some (0, u13)) else some (v9, u)
def fcJ_rule (u : g_S) (p1 : Int32) (p2 : Int32) (p3 : Int32) (p4 : Int32) (p5 : Int32) : Option (Nat × g_S) := (fcJ_isBelow p1 (8 : Int32)).bind fun v1 => (fcJ_needKnown v1).bind fun v2 => if v2 = 0 then ((fcJ_isBelow p2 (20001 : Int32)).bind fun v3 => (fcJ_needRange v3).bind fun v4 => if v4 = 0 then ((fcJ_isBelow p3 (100001 : Int32)).bind fun v5 => (fcJ_needRange v5).bind fun v6 => if v6 = 0 then ((fcJ_isBelow p4 (101 : Int32)).bind fun v7 => (fcJ_needRange v7).bind fun v8 => if v8 = 0 then (if p5 < (1 : Int32) then (fcJ_rule_56 u p1 p2 p3 p4 p5 (0 : Int32)) else if (100 : Int32) < p5 then (fcJ_rule_56 u p1 p2 p3 p4 p5 (0 : Int32)) else fcJ_rule_56 u p1 p2 p3 p4 p5 (1 : Int32)) else some (v8, u)) else some (v6, u)) else some (v4, u)) else some (v2, u)
def fcJ_weight_23 (u : g_S) (x1 : Int32) (x2 : Int32) (x3 : Int32) (y0 : Int32) : Option (Nat × g_S) := (fcJ_needKnown y0).bind fun v2 => if v2 = 0 then ((fcJ_isBelow x3 (101 : Int32)).bind fun v3 => (fcJ_needRange v3).bind fun v4 => if v4 = 0 then (ck ((x1 * (32 : Int32)) + x2) 256 <| gl (g_sA u 4 ((x1 * (32 : Int32)) + x2) x3) fun u5 => some (0, u5)) else some (v4, u)) else some (v2, u)
def fcJ_weight (u : g_S) (p1 : Int32) (p2 : Int32) (p3 : Int32) : Option (Nat × g_S) := (fcJ_isBelow p1 (8 : Int32)).bind fun v1 => if v1 = 0 then (fcJ_weight_23 u p1 p2 p3 (0 : Int32)) else (fcJ_isBelow p2 (32 : Int32)).bind fun v6 => if v6 = 0 then (fcJ_weight_23 u p1 p2 p3 (0 : Int32)) else fcJ_weight_23 u p1 p2 p3 (1 : Int32)
def fcJ_needRoom (p0 : Int32) : Option (Nat) := if ¬ p0 = 0 then (some 0) else some 4
def fcR_append (u : g_S) (p1 : Int32) (p2 : Int32) : Option (Int32 × g_S) := ck p1 8 <| ck ((p1 * (8 : Int32)) + (u.2 5 p1.toNatClampNeg)) 64 <| gl (g_sA u 6 ((p1 * (8 : Int32)) + (u.2 5 p1.toNatClampNeg)) p2) fun u1 => ck p1 8 <| ck p1 8 <| gl (g_sA u1 5 p1 ((u1.2 5 p1.toNatClampNeg) + (1 : Int32))) fun u2 => ck p1 8 <| some ((u2.2 5 p1.toNatClampNeg), u2)
def fcJ_point_37 (u : g_S) (x1 : Int32) (x2 : Int32) (y0 : Int32) : Option (Nat × Int32 × g_S) := (fcJ_needRoom y0).bind fun v5 => if v5 = 0 then ((fcR_append u x1 x2).bind fun v6 => some (0, v6.1, v6.2)) else some (v5, (0 : Int32), u)
def fcJ_point (u : g_S) (p1 : Int32) (p2 : Int32) : Option (Nat × Int32 × g_S) := (fcJ_isBelow p1 (8 : Int32)).bind fun v1 => (fcJ_needKnown v1).bind fun v2 => if v2 = 0 then ((fcJ_isBelow p2 (100000000 : Int32)).bind fun v3 => (fcJ_needRange v3).bind fun v4 => if v4 = 0 then (ck p1 8 <| if (8 : Int32) ≤ (u.2 5 p1.toNatClampNeg) then (fcJ_point_37 u p1 p2 (0 : Int32)) else fcJ_point_37 u p1 p2 (1 : Int32)) else some (v4, (0 : Int32), u)) else some (v2, (0 : Int32), u)
def fcA_latestTime (u : g_S)  : Option (Int32) := if ¬ (u.1 0) = 0 then (ck ((u.1 0) - (1 : Int32)) 121 <| some (u.2 12 ((u.1 0) - (1 : Int32)).toNatClampNeg)) else some (0 : Int32)
def fcJ_needCallData_62 (u : g_S) (x5 : Int32) (y0 : Int32) : Option (Nat) := (fcJ_needRange y0).bind fun v6 => if v6 = 0 then ((fcA_latestTime u ).bind fun v7 => if x5 < v7 then ((fcJ_needRange (0 : Int32)).bind fun v8 => if v8 = 0 then (some 0) else some v8) else (fcJ_needRange (1 : Int32)).bind fun v9 => if v9 = 0 then (some 0) else some v9) else some v6
def fcJ_needCallData_30 (u : g_S) (x1 : Int32) (x3 : Int32) (x5 : Int32) (y0 : Int32) : Option (Nat) := (fcJ_needKnown y0).bind fun v3 => if v3 = 0 then ((fcJ_isBelow x1 (1000 : Int32)).bind fun v4 => (fcJ_needRange v4).bind fun v5 => if v5 = 0 then (if x3 = (-1 : Int32) then (fcJ_needCallData_62 u x5 (1 : Int32)) else (fcJ_isBelow x3 (100000000 : Int32)).bind fun v10 => if v10 = 0 then (fcJ_needCallData_62 u x5 (0 : Int32)) else fcJ_needCallData_62 u x5 (1 : Int32)) else some v5) else some v3
def fcJ_needCallData (u : g_S) (p1 : Int32) (p2 : Int32) (p3 : Int32) (p4 : Int32) (p5 : Int32) : Option (Nat) := (fcJ_isBelow p2 (8 : Int32)).bind fun v1 => (fcJ_needKnown v1).bind fun v2 => if v2 = 0 then (if p4 = (-1 : Int32) then (fcJ_needCallData_30 u p1 p3 p5 (1 : Int32)) else (fcJ_isBelow p4 (8 : Int32)).bind fun v11 => if v11 = 0 then (fcJ_needCallData_30 u p1 p3 p5 (0 : Int32)) else fcJ_needCallData_30 u p1 p3 p5 (1 : Int32)) else some v2
def fcA_draft (u : g_S) (p1 : Int32) (p2 : Int32) (p3 : Int32) (p4 : Int32) (p5 : Int32) (p6 : Int32) : Option (Int32 × g_S) := ck (u.1 0) 121 <| gl (g_sA u 7 (u.1 0) p1) fun u1 => ck (u1.1 0) 121 <| gl (g_sA u1 8 (u1.1 0) p2) fun u2 => ck (u2.1 0) 121 <| gl (g_sA u2 9 (u2.1 0) p3) fun u3 => ck (u3.1 0) 121 <| gl (g_sA u3 10 (u3.1 0) p4) fun u4 => ck (u4.1 0) 121 <| gl (g_sA u4 11 (u4.1 0) p5) fun u5 => ck (u5.1 0) 121 <| gl (g_sA u5 12 (u5.1 0) p6) fun u6 => ck (u6.1 0) 121 <| gl (g_sA u6 14 (u6.1 0) (-1 : Int32)) fun u7 => ck (u7.1 0) 121 <| gl (g_sA u7 15 (u7.1 0) (0 : Int32)) fun u8 => ck (u8.1 0) 121 <| gl (g_sA u8 16 (u8.1 0) (0 : Int32)) fun u9 => some ((u9.1 0), u9)
def fcA_isHoax (u : g_S) (p1 : Int32) : Option (Int32) := ck p1 121 <| if ((u.2 16 p1.toNatClampNeg) &&& (4 : Int32)) = 0 then (some (0 : Int32)) else some (1 : Int32)
def fcJ_isInOpenEvent (u : g_S) (p1 : Int32) : Option (Int32) := ck p1 121 <| ck (u.2 13 p1.toNatClampNeg) 60 <| if ¬ (u.2 17 (u.2 13 p1.toNatClampNeg).toNatClampNeg) = 0 then (some (0 : Int32)) else some (1 : Int32)
def fcJ_canBeReason (u : g_S) (p1 : Int32) : Option (Int32) := (fcA_isHoax u p1).bind fun v1 => if ¬ v1 = 0 then (some (0 : Int32)) else (fcJ_isInOpenEvent u p1).bind fun v2 => if v2 = 0 then (some (0 : Int32)) else some (1 : Int32)
def fcJ_isWithinSpan (u : g_S) (p1 : Int32) (p2 : Int32) : Option (Int32) := ck p2 121 <| ck p1 121 <| ck p2 121 <| ck (u.2 8 p2.toNatClampNeg) 8 <| if (u.2 1 (u.2 8 p2.toNatClampNeg).toNatClampNeg) < ((u.2 12 p2.toNatClampNeg) - (u.2 12 p1.toNatClampNeg)) then (some (0 : Int32)) else some (1 : Int32)
def fcJ_latestOfLine_10 (u : g_S) : Nat → Int32 → Int32 → Option (Int32)
  | 0, _, _ => none
  | n + 1, x1, x2 => if x2 < 0 then (some (-1 : Int32)) else ck x2 121 <| ck x1 121 <| if ¬ (u.2 7 x2.toNatClampNeg) = (u.2 7 x1.toNatClampNeg) then (fcJ_latestOfLine_10 u n x1 (x2 + (-1 : Int32))) else (fcJ_canBeReason u x2).bind fun v2 => if v2 = 0 then (fcJ_latestOfLine_10 u n x1 (x2 + (-1 : Int32))) else (fcJ_isWithinSpan u x2 x1).bind fun v3 => if v3 = 0 then (some (-1 : Int32)) else some x2
def fcJ_latestOfLine (u : g_S) (p1 : Int32) : Option (Int32) := gl ((u.1 0) - (1 : Int32)) fun w1 => fcJ_latestOfLine_10 u 200 p1 w1
theorem fcJ_latestOfLine_10_s (u : g_S) (n : Nat) (x1 : Int32) (x2 : Int32) : fcJ_latestOfLine_10 u (n + 1) x1 x2 = (if x2 < 0 then (some (-1 : Int32)) else ck x2 121 <| ck x1 121 <| if ¬ (u.2 7 x2.toNatClampNeg) = (u.2 7 x1.toNatClampNeg) then (fcJ_latestOfLine_10 u n x1 (x2 + (-1 : Int32))) else (fcJ_canBeReason u x2).bind fun v2 => if v2 = 0 then (fcJ_latestOfLine_10 u n x1 (x2 + (-1 : Int32))) else (fcJ_isWithinSpan u x2 x1).bind fun v3 => if v3 = 0 then (some (-1 : Int32)) else some x2) := rfl
def fcJ_takeReason (u : g_S) (p1 : Int32) (p2 : Int32) (p3 : Int32) : Option (Int32 × g_S) := if ¬ p2 = (-1 : Int32) then (ck p1 121 <| gl (g_sA u 14 p1 p2) fun u1 => ck p1 121 <| gl (g_sA u1 15 p1 p3) fun u2 => some ((1 : Int32), u2)) else some ((0 : Int32), u)
def fcE_isWatchedFor (u : g_S) (p1 : Int32) (p2 : Int32) : Option (Int32) := ck p1 60 <| if ¬ (u.2 17 p1.toNatClampNeg) = 0 then (some (0 : Int32)) else ck p1 60 <| if ¬ (u.2 18 p1.toNatClampNeg) = p2 then (some (0 : Int32)) else ck p1 60 <| if (u.2 20 p1.toNatClampNeg) = (-1 : Int32) then (some (0 : Int32)) else some (1 : Int32)
def fcJ_eastOf (p0 : Int32) : Option (Int32) := some (p0 / (10000 : Int32))
def fcJ_northOf (p0 : Int32) : Option (Int32) := some (p0 - p0 / (10000 : Int32) * (10000 : Int32))
def fcJ_squareBetween (p0 : Int32) (p1 : Int32) : Option (Int64) := (fcJ_eastOf p0).bind fun v1 => (fcJ_eastOf p1).bind fun v2 => gl (Int32.toInt64 (v1 - v2)) fun w3 => (fcJ_northOf p0).bind fun v4 => (fcJ_northOf p1).bind fun v5 => gl (Int32.toInt64 (v4 - v5)) fun w6 => some ((w3 * w3) + (w6 * w6))
def fcR_isNearPiece (p0 : Int32) (p1 : Int32) (p2 : Int32) : Option (Int32) := (fcJ_eastOf p1).bind fun v1 => (fcJ_eastOf p0).bind fun v2 => gl (Int32.toInt64 (v1 - v2)) fun w3 => (fcJ_northOf p1).bind fun v4 => (fcJ_northOf p0).bind fun v5 => gl (Int32.toInt64 (v4 - v5)) fun w6 => (fcJ_eastOf p2).bind fun v7 => (fcJ_eastOf p0).bind fun v8 => gl (Int32.toInt64 (v7 - v8)) fun w9 => (fcJ_northOf p2).bind fun v10 => (fcJ_northOf p0).bind fun v11 => gl (Int32.toInt64 (v10 - v11)) fun w12 => gl ((w9 * w3) + (w12 * w6)) fun w13 => gl ((w3 * w3) + (w6 * w6)) fun w14 => if 0 < (lg_cmp w13 (0 : Int64)) then (if (lg_cmp w13 w14) < 0 then (gl ((w9 * w6) - (w12 * w3)) fun w15 => if 0 < (lg_cmp (w15 * w15) ((2500 : Int64) * w14)) then (some (0 : Int32)) else some (1 : Int32)) else (fcJ_squareBetween p1 p2).bind fun v16 => if 0 < (lg_cmp v16 (2500 : Int64)) then (some (0 : Int32)) else some (1 : Int32)) else (fcJ_squareBetween p0 p2).bind fun v17 => if 0 < (lg_cmp v17 (2500 : Int64)) then (some (0 : Int32)) else some (1 : Int32)
def fcR_isNear_9 (u : g_S) : Nat → Int32 → Int32 → Int32 → Int32 → Option (Int32)
  | 0, _, _, _, _ => none
  | n + 1, x3, x4, x5, x6 => if x3 ≤ x6 then (some (0 : Int32)) else ck (x5 + x6) 64 <| ck ((x5 + x6) + (1 : Int32)) 64 <| (fcR_isNearPiece (u.2 6 (x5 + x6).toNatClampNeg) (u.2 6 ((x5 + x6) + (1 : Int32)).toNatClampNeg) x4).bind fun v2 => if v2 = 0 then (fcR_isNear_9 u n x3 x4 x5 (x6 + (1 : Int32))) else some (1 : Int32)
def fcR_isNear (u : g_S) (p1 : Int32) (p2 : Int32) (p3 : Int32) (p4 : Int32) : Option (Int32) := gl (p1 * (8 : Int32)) fun w1 => fcR_isNear_9 u 200 p3 p4 w1 p2
theorem fcR_isNear_9_s (u : g_S) (n : Nat) (x3 : Int32) (x4 : Int32) (x5 : Int32) (x6 : Int32) : fcR_isNear_9 u (n + 1) x3 x4 x5 x6 = (if x3 ≤ x6 then (some (0 : Int32)) else ck (x5 + x6) 64 <| ck ((x5 + x6) + (1 : Int32)) 64 <| (fcR_isNearPiece (u.2 6 (x5 + x6).toNatClampNeg) (u.2 6 ((x5 + x6) + (1 : Int32)).toNatClampNeg) x4).bind fun v2 => if v2 = 0 then (fcR_isNear_9 u n x3 x4 x5 (x6 + (1 : Int32))) else some (1 : Int32)) := rfl
def fcJ_isOnStretch (u : g_S) (p1 : Int32) (p2 : Int32) : Option (Int32) := ck p2 60 <| gl (u.2 20 p2.toNatClampNeg) fun w1 => ck p1 121 <| gl (u.2 9 p1.toNatClampNeg) fun w2 => if ¬ w2 = (-1 : Int32) then (ck p2 60 <| ck p2 60 <| (fcR_isNear u w1 (u.2 21 p2.toNatClampNeg) (u.2 22 p2.toNatClampNeg) w2).bind fun v3 => if v3 = 0 ∨ v3 = 1 then some v3 else none) else ck p1 121 <| if ¬ (u.2 11 p1.toNatClampNeg) = w1 then (some (0 : Int32)) else some (1 : Int32)
def fcJ_firstOnStretch_2 (u : g_S) : Nat → Int32 → Int32 → Option (Int32)
  | 0, _, _ => none
  | n + 1, x1, x2 => if (u.1 1) ≤ x2 then (some (-1 : Int32)) else ck x1 121 <| (fcE_isWatchedFor u x2 (u.2 8 x1.toNatClampNeg)).bind fun v1 => if v1 = 0 then (fcJ_firstOnStretch_2 u n x1 (x2 + (1 : Int32))) else (fcJ_isOnStretch u x1 x2).bind fun v2 => if v2 = 0 then (fcJ_firstOnStretch_2 u n x1 (x2 + (1 : Int32))) else ck x2 60 <| some (u.2 19 x2.toNatClampNeg)
def fcJ_firstOnStretch (u : g_S) (p1 : Int32) : Option (Int32) := fcJ_firstOnStretch_2 u 200 p1 (0 : Int32)
theorem fcJ_firstOnStretch_2_s (u : g_S) (n : Nat) (x1 : Int32) (x2 : Int32) : fcJ_firstOnStretch_2 u (n + 1) x1 x2 = (if (u.1 1) ≤ x2 then (some (-1 : Int32)) else ck x1 121 <| (fcE_isWatchedFor u x2 (u.2 8 x1.toNatClampNeg)).bind fun v1 => if v1 = 0 then (fcJ_firstOnStretch_2 u n x1 (x2 + (1 : Int32))) else (fcJ_isOnStretch u x1 x2).bind fun v2 => if v2 = 0 then (fcJ_firstOnStretch_2 u n x1 (x2 + (1 : Int32))) else ck x2 60 <| some (u.2 19 x2.toNatClampNeg)) := rfl
def fcJ_isCandidate (u : g_S) (p1 : Int32) (p2 : Int32) : Option (Int32) := ck p1 121 <| ck p2 121 <| if ¬ (u.2 8 p1.toNatClampNeg) = (u.2 8 p2.toNatClampNeg) then (some (0 : Int32)) else (fcJ_canBeReason u p1).bind fun v1 => if v1 = 0 then (some (0 : Int32)) else some (1 : Int32)
def fcU_weigh_8 (u : g_S) : Nat → Int32 → Int32 → Int32 → Int32 → Option (Int32)
  | 0, _, _, _, _ => none
  | n + 1, x1, x3, x4, x5 => if (32 : Int32) ≤ x5 then (some x3) else if x4 = 0 then (some x3) else if ¬ (x4 &&& (1 : Int32)) = (1 : Int32) then (gl ((x4.toUInt32 >>> (Int32.toUInt32 (1 : Int32) &&& Int32.toUInt32 31)).toInt32) fun w1 => fcU_weigh_8 u n x1 x3 w1 (x5 + (1 : Int32))) else ck ((x1 * (32 : Int32)) + x5) 256 <| gl (x3 + (u.2 4 ((x1 * (32 : Int32)) + x5).toNatClampNeg)) fun w2 => gl ((x4.toUInt32 >>> (Int32.toUInt32 (1 : Int32) &&& Int32.toUInt32 31)).toInt32) fun w3 => fcU_weigh_8 u n x1 w2 w3 (x5 + (1 : Int32))
def fcU_weigh (u : g_S) (p1 : Int32) (p2 : Int32) : Option (Int32) := fcU_weigh_8 u 200 p1 (0 : Int32) p2 (0 : Int32)
theorem fcU_weigh_8_s (u : g_S) (n : Nat) (x1 : Int32) (x3 : Int32) (x4 : Int32) (x5 : Int32) : fcU_weigh_8 u (n + 1) x1 x3 x4 x5 = (if (32 : Int32) ≤ x5 then (some x3) else if x4 = 0 then (some x3) else if ¬ (x4 &&& (1 : Int32)) = (1 : Int32) then (gl ((x4.toUInt32 >>> (Int32.toUInt32 (1 : Int32) &&& Int32.toUInt32 31)).toInt32) fun w1 => fcU_weigh_8 u n x1 x3 w1 (x5 + (1 : Int32))) else ck ((x1 * (32 : Int32)) + x5) 256 <| gl (x3 + (u.2 4 ((x1 * (32 : Int32)) + x5).toNatClampNeg)) fun w2 => gl ((x4.toUInt32 >>> (Int32.toUInt32 (1 : Int32) &&& Int32.toUInt32 31)).toInt32) fun w3 => fcU_weigh_8 u n x1 w2 w3 (x5 + (1 : Int32))) := rfl
def fcU_meetsNeed (u : g_S) (p1 : Int32) (p2 : Int32) (p3 : Int32) : Option (Int32) := ck p1 8 <| ck p1 8 <| if (p2 * (u.2 3 p1.toNatClampNeg)) < ((u.2 2 p1.toNatClampNeg) * p3) then (some (0 : Int32)) else some (1 : Int32)
def fcJ_agreement_144 (u : g_S) (x7 : Int32) : Option (Int32) := if x7 = 0 then (some (0 : Int32)) else some (2 : Int32)
def fcJ_agreement_244 (u : g_S) (y0 : Int32) : Option (Int32) := if y0 = 0 then (some (0 : Int32)) else some (1 : Int32)
def fcJ_agreement_116 (u : g_S) (x1 : Int32) (x2 : Int32) (x3 : Int32) (x6 : Int32) (y0 : Int32) : Option (Int32) := ck x1 121 <| if (u.2 9 x1.toNatClampNeg) = (-1 : Int32) then (fcJ_agreement_144 u y0) else ck x2 121 <| if ¬ (u.2 9 x2.toNatClampNeg) = (-1 : Int32) then (ck x1 121 <| ck x2 121 <| (fcJ_squareBetween (u.2 9 x1.toNatClampNeg) (u.2 9 x2.toNatClampNeg)).bind fun v5 => ck x3 8 <| ck x3 8 <| gl ((Int32.toInt64 (u.2 0 x3.toNatClampNeg)) * (Int32.toInt64 (u.2 0 x3.toNatClampNeg))) fun w6 => if x6 = 0 then (if 0 < (lg_cmp ((4 : Int64) * v5) w6) then (fcJ_agreement_244 u (0 : Int32)) else fcJ_agreement_244 u (1 : Int32)) else if y0 = 0 then (fcJ_agreement_244 u (0 : Int32)) else if 0 < (lg_cmp v5 w6) then (fcJ_agreement_244 u (0 : Int32)) else fcJ_agreement_244 u (1 : Int32)) else fcJ_agreement_144 u y0
def fcJ_agreement_89 (u : g_S) (x1 : Int32) (x2 : Int32) (x3 : Int32) (x4 : Int32) (x5 : Int32) (y0 : Int32) : Option (Int32) := if y0 = 0 then (fcJ_agreement_116 u x1 x2 x3 y0 (0 : Int32)) else (fcU_meetsNeed u x3 x5 x4).bind fun v7 => if v7 = 0 then (fcJ_agreement_116 u x1 x2 x3 y0 (0 : Int32)) else fcJ_agreement_116 u x1 x2 x3 y0 (1 : Int32)
def fcJ_agreement (u : g_S) (p1 : Int32) (p2 : Int32) : Option (Int32) := (fcJ_isWithinSpan u p1 p2).bind fun v1 => if ¬ v1 = 0 then (ck p2 121 <| gl (u.2 8 p2.toNatClampNeg) fun w2 => ck p1 121 <| ck p2 121 <| (fcU_weigh u w2 ((u.2 10 p1.toNatClampNeg) ||| (u.2 10 p2.toNatClampNeg))).bind fun v3 => ck p1 121 <| ck p2 121 <| (fcU_weigh u w2 ((u.2 10 p1.toNatClampNeg) &&& (u.2 10 p2.toNatClampNeg))).bind fun v4 => if v3 ≤ 0 then (fcJ_agreement_89 u p1 p2 w2 v3 v4 (0 : Int32)) else fcJ_agreement_89 u p1 p2 w2 v3 v4 (1 : Int32)) else some (0 : Int32)
def fcJ_nearestByPlace_7 (u : g_S) : Nat → Int32 → Int32 → Int64 → Int32 → Option (Int32)
  | 0, _, _, _, _ => none
  | n + 1, x1, x2, x3, x5 => if (u.1 0) ≤ x5 then (some x2) else (fcJ_isCandidate u x5 x1).bind fun v1 => if v1 = 0 then (fcJ_nearestByPlace_7 u n x1 x2 x3 (x5 + (1 : Int32))) else (fcJ_agreement u x5 x1).bind fun v2 => if ¬ v2 = (1 : Int32) then (fcJ_nearestByPlace_7 u n x1 x2 x3 (x5 + (1 : Int32))) else ck x5 121 <| ck x1 121 <| (fcJ_squareBetween (u.2 9 x5.toNatClampNeg) (u.2 9 x1.toNatClampNeg)).bind fun v3 => if x2 = (-1 : Int32) then (fcJ_nearestByPlace_7 u n x1 x5 v3 (x5 + (1 : Int32))) else if 0 ≤ (lg_cmp v3 x3) then (fcJ_nearestByPlace_7 u n x1 x2 x3 (x5 + (1 : Int32))) else fcJ_nearestByPlace_7 u n x1 x5 v3 (x5 + (1 : Int32))
def fcJ_nearestByPlace (u : g_S) (p1 : Int32) : Option (Int32) := fcJ_nearestByPlace_7 u 200 p1 (-1 : Int32) (0 : Int64) (0 : Int32)
theorem fcJ_nearestByPlace_7_s (u : g_S) (n : Nat) (x1 : Int32) (x2 : Int32) (x3 : Int64) (x5 : Int32) : fcJ_nearestByPlace_7 u (n + 1) x1 x2 x3 x5 = (if (u.1 0) ≤ x5 then (some x2) else (fcJ_isCandidate u x5 x1).bind fun v1 => if v1 = 0 then (fcJ_nearestByPlace_7 u n x1 x2 x3 (x5 + (1 : Int32))) else (fcJ_agreement u x5 x1).bind fun v2 => if ¬ v2 = (1 : Int32) then (fcJ_nearestByPlace_7 u n x1 x2 x3 (x5 + (1 : Int32))) else ck x5 121 <| ck x1 121 <| (fcJ_squareBetween (u.2 9 x5.toNatClampNeg) (u.2 9 x1.toNatClampNeg)).bind fun v3 => if x2 = (-1 : Int32) then (fcJ_nearestByPlace_7 u n x1 x5 v3 (x5 + (1 : Int32))) else if 0 ≤ (lg_cmp v3 x3) then (fcJ_nearestByPlace_7 u n x1 x2 x3 (x5 + (1 : Int32))) else fcJ_nearestByPlace_7 u n x1 x5 v3 (x5 + (1 : Int32))) := rfl
def fcJ_greatestShare_21 (u : g_S) : Nat → Int32 → Int32 → Int32 → Int32 → Int32 → Int32 → Option (Int32)
  | 0, _, _, _, _, _, _ => none
  | n + 1, x1, x2, x3, x4, x5, x6 => if (u.1 0) ≤ x6 then (some x3) else (fcJ_isCandidate u x6 x1).bind fun v2 => if v2 = 0 then (fcJ_greatestShare_21 u n x1 x2 x3 x4 x5 (x6 + (1 : Int32))) else (fcJ_agreement u x6 x1).bind fun v3 => if ¬ v3 = (2 : Int32) then (fcJ_greatestShare_21 u n x1 x2 x3 x4 x5 (x6 + (1 : Int32))) else ck x6 121 <| ck x1 121 <| (fcU_weigh u x2 ((u.2 10 x6.toNatClampNeg) &&& (u.2 10 x1.toNatClampNeg))).bind fun v4 => ck x6 121 <| ck x1 121 <| (fcU_weigh u x2 ((u.2 10 x6.toNatClampNeg) ||| (u.2 10 x1.toNatClampNeg))).bind fun v5 => if x3 = (-1 : Int32) then (fcJ_greatestShare_21 u n x1 x2 x6 v4 v5 (x6 + (1 : Int32))) else if (v4 * x5) ≤ (x4 * v5) then (fcJ_greatestShare_21 u n x1 x2 x3 x4 x5 (x6 + (1 : Int32))) else fcJ_greatestShare_21 u n x1 x2 x6 v4 v5 (x6 + (1 : Int32))
def fcJ_greatestShare (u : g_S) (p1 : Int32) : Option (Int32) := ck p1 121 <| gl (u.2 8 p1.toNatClampNeg) fun w1 => fcJ_greatestShare_21 u 200 p1 w1 (-1 : Int32) (0 : Int32) (1 : Int32) (0 : Int32)
theorem fcJ_greatestShare_21_s (u : g_S) (n : Nat) (x1 : Int32) (x2 : Int32) (x3 : Int32) (x4 : Int32) (x5 : Int32) (x6 : Int32) : fcJ_greatestShare_21 u (n + 1) x1 x2 x3 x4 x5 x6 = (if (u.1 0) ≤ x6 then (some x3) else (fcJ_isCandidate u x6 x1).bind fun v2 => if v2 = 0 then (fcJ_greatestShare_21 u n x1 x2 x3 x4 x5 (x6 + (1 : Int32))) else (fcJ_agreement u x6 x1).bind fun v3 => if ¬ v3 = (2 : Int32) then (fcJ_greatestShare_21 u n x1 x2 x3 x4 x5 (x6 + (1 : Int32))) else ck x6 121 <| ck x1 121 <| (fcU_weigh u x2 ((u.2 10 x6.toNatClampNeg) &&& (u.2 10 x1.toNatClampNeg))).bind fun v4 => ck x6 121 <| ck x1 121 <| (fcU_weigh u x2 ((u.2 10 x6.toNatClampNeg) ||| (u.2 10 x1.toNatClampNeg))).bind fun v5 => if x3 = (-1 : Int32) then (fcJ_greatestShare_21 u n x1 x2 x6 v4 v5 (x6 + (1 : Int32))) else if (v4 * x5) ≤ (x4 * v5) then (fcJ_greatestShare_21 u n x1 x2 x3 x4 x5 (x6 + (1 : Int32))) else fcJ_greatestShare_21 u n x1 x2 x6 v4 v5 (x6 + (1 : Int32))) := rfl
def fcJ_seekReason (u : g_S) (p1 : Int32) : Option (g_S) := (fcJ_latestOfLine u p1).bind fun v1 => (fcJ_takeReason u p1 v1 (1 : Int32)).bind fun v2 => if v2.1 = 0 then ((fcJ_firstOnStretch v2.2 p1).bind fun v3 => (fcJ_takeReason v2.2 p1 v3 (2 : Int32)).bind fun v4 => if v4.1 = 0 then ((fcJ_nearestByPlace v4.2 p1).bind fun v5 => (fcJ_takeReason v4.2 p1 v5 (3 : Int32)).bind fun v6 => if v6.1 = 0 then ((fcJ_greatestShare v6.2 p1).bind fun v7 => (fcJ_takeReason v6.2 p1 v7 (4 : Int32)).bind fun v8 => some v8.2) else some v6.2) else some v4.2) else some v2.2
def fcE_begin (u : g_S) (p1 : Int32) (p2 : Int32) : Option (Int32 × g_S) := ck (u.1 1) 60 <| gl (g_sA u 17 (u.1 1) (0 : Int32)) fun u1 => ck (u1.1 1) 60 <| gl (g_sA u1 18 (u1.1 1) p1) fun u2 => ck (u2.1 1) 60 <| gl (g_sA u2 19 (u2.1 1) p2) fun u3 => ck (u3.1 1) 60 <| gl (g_sA u3 20 (u3.1 1) (-1 : Int32)) fun u4 => gl (g_sI u4 1 ((u4.1 1) + (1 : Int32))) fun u5 => some (((u5.1 1) - (1 : Int32)), u5)
def fcJ_call_136 (u : g_S) (x7 : Int32) : Option (Nat × Int32 × g_S) := gl (g_sI u 0 ((u.1 0) + (1 : Int32))) fun u7 => some (0, x7, u7)
def fcJ_call_90 (u : g_S) (x2 : Int32) (x7 : Int32) (y0 : Int32) : Option (Nat × Int32 × g_S) := (fcJ_needRoom y0).bind fun v8 => if v8 = 0 then ((fcE_begin u x2 x7).bind fun v9 => ck x7 121 <| gl (g_sA v9.2 13 x7 v9.1) fun u10 => fcJ_call_136 u10 x7) else some (v8, (0 : Int32), u)
def fcJ_call_28 (u : g_S) (x1 : Int32) (x2 : Int32) (x3 : Int32) (x4 : Int32) (x5 : Int32) (x6 : Int32) (y0 : Int32) : Option (Nat × Int32 × g_S) := (fcJ_needRoom y0).bind fun v2 => if v2 = 0 then ((fcA_draft u x1 x2 x3 x4 x5 x6).bind fun v3 => (fcJ_seekReason v3.2 v3.1).bind fun v4 => ck v3.1 121 <| gl (v4.2 14 v3.1.toNatClampNeg) fun w5 => if ¬ w5 = (-1 : Int32) then (ck w5 121 <| ck v3.1 121 <| gl (g_sA v4 13 v3.1 (v4.2 13 w5.toNatClampNeg)) fun u6 => fcJ_call_136 u6 v3.1) else if (60 : Int32) ≤ (v4.1 1) then (fcJ_call_90 v4 x2 v3.1 (0 : Int32)) else fcJ_call_90 v4 x2 v3.1 (1 : Int32)) else some (v2, (0 : Int32), u)
def fcJ_call (u : g_S) (p1 : Int32) (p2 : Int32) (p3 : Int32) (p4 : Int32) (p5 : Int32) (p6 : Int32) : Option (Nat × Int32 × g_S) := (fcJ_needCallData u p1 p2 p3 p5 p6).bind fun v1 => if v1 = 0 then (if (120 : Int32) ≤ (u.1 0) then (fcJ_call_28 u p1 p2 p3 p4 p5 p6 (0 : Int32)) else fcJ_call_28 u p1 p2 p3 p4 p5 p6 (1 : Int32)) else some (v1, (0 : Int32), u)
def fcJ_reasonFor (u : g_S) (p1 : Int32) (p2 : Int32) (p3 : Int32) (p4 : Int32) (p5 : Int32) (p6 : Int32) : Option (Nat × Int32 × g_S) := (fcJ_needCallData u p1 p2 p3 p5 p6).bind fun v1 => if v1 = 0 then ((fcA_draft u p1 p2 p3 p4 p5 p6).bind fun v2 => (fcJ_seekReason v2.2 v2.1).bind fun v3 => ck v2.1 121 <| some (0, (v3.2 14 v2.1.toNatClampNeg), v3)) else some (v1, (0 : Int32), u)
def fcJ_mark (u : g_S) (p1 : Int32) (p2 : Int32) : Option (Nat × g_S) := (fcJ_isBelow p1 (u.1 0)).bind fun v1 => (fcJ_needKnown v1).bind fun v2 => if v2 = 0 then ((fcJ_isBelow p2 (8 : Int32)).bind fun v3 => (fcJ_needRange v3).bind fun v4 => if v4 = 0 then (ck p1 121 <| gl (g_sA u 16 p1 p2) fun u5 => some (0, u5)) else some (v4, u)) else some (v2, u)
def fcJ_needState (p0 : Int32) : Option (Nat) := if ¬ p0 = 0 then (some 0) else some 3
def fcA_isUnder_5 (u : g_S) : Nat → Int32 → Int32 → Int32 → Option (Int32)
  | 0, _, _, _ => none
  | n + 1, x2, x3, x4 => if (120 : Int32) ≤ x4 then (some (0 : Int32)) else if x3 = (-1 : Int32) then (some (0 : Int32)) else if ¬ x3 = x2 then (ck x3 121 <| gl (u.2 14 x3.toNatClampNeg) fun w1 => fcA_isUnder_5 u n x2 w1 (x4 + (1 : Int32))) else some (1 : Int32)
def fcA_isUnder (u : g_S) (p1 : Int32) (p2 : Int32) : Option (Int32) := fcA_isUnder_5 u 200 p2 p1 (0 : Int32)
theorem fcA_isUnder_5_s (u : g_S) (n : Nat) (x2 : Int32) (x3 : Int32) (x4 : Int32) : fcA_isUnder_5 u (n + 1) x2 x3 x4 = (if (120 : Int32) ≤ x4 then (some (0 : Int32)) else if x3 = (-1 : Int32) then (some (0 : Int32)) else if ¬ x3 = x2 then (ck x3 121 <| gl (u.2 14 x3.toNatClampNeg) fun w1 => fcA_isUnder_5 u n x2 w1 (x4 + (1 : Int32))) else some (1 : Int32)) := rfl
def fcA_moveBranch_2 : Nat → g_S → Int32 → Int32 → Int32 → Option (g_S)
  | 0, _, _, _, _ => none
  | n + 1, u, x1, x2, x3 => if (u.1 0) ≤ x3 then (some u) else (fcA_isUnder u x3 x1).bind fun v1 => if v1 = 0 then (fcA_moveBranch_2 n u x1 x2 (x3 + (1 : Int32))) else ck x3 121 <| gl (g_sA u 13 x3 x2) fun u2 => fcA_moveBranch_2 n u2 x1 x2 (x3 + (1 : Int32))
def fcA_moveBranch (u : g_S) (p1 : Int32) (p2 : Int32) : Option (g_S) := fcA_moveBranch_2 200 u p1 p2 (0 : Int32)
theorem fcA_moveBranch_2_s (u : g_S) (n : Nat) (x1 : Int32) (x2 : Int32) (x3 : Int32) : fcA_moveBranch_2 (n + 1) u x1 x2 x3 = (if (u.1 0) ≤ x3 then (some u) else (fcA_isUnder u x3 x1).bind fun v1 => if v1 = 0 then (fcA_moveBranch_2 n u x1 x2 (x3 + (1 : Int32))) else ck x3 121 <| gl (g_sA u 13 x3 x2) fun u2 => fcA_moveBranch_2 n u2 x1 x2 (x3 + (1 : Int32))) := rfl
def fcJ_split_60 (u : g_S) (x1 : Int32) (y0 : Int32) : Option (Nat × Int32 × g_S) := (fcJ_needRoom y0).bind fun v4 => if v4 = 0 then (ck x1 121 <| (fcE_begin u (u.2 8 x1.toNatClampNeg) x1).bind fun v5 => (fcA_moveBranch v5.2 x1 v5.1).bind fun v6 => ck x1 121 <| gl (g_sA v6 14 x1 (-1 : Int32)) fun u7 => ck x1 121 <| gl (g_sA u7 15 x1 (0 : Int32)) fun u8 => some (0, v5.1, u8)) else some (v4, (0 : Int32), u)
def fcJ_split_40 (u : g_S) (x1 : Int32) (y0 : Int32) : Option (Nat × Int32 × g_S) := (fcJ_needState y0).bind fun v3 => if v3 = 0 then (if (60 : Int32) ≤ (u.1 1) then (fcJ_split_60 u x1 (0 : Int32)) else fcJ_split_60 u x1 (1 : Int32)) else some (v3, (0 : Int32), u)
def fcJ_split (u : g_S) (p1 : Int32) : Option (Nat × Int32 × g_S) := (fcJ_isBelow p1 (u.1 0)).bind fun v1 => (fcJ_needKnown v1).bind fun v2 => if v2 = 0 then (ck p1 121 <| if (u.2 14 p1.toNatClampNeg) = (-1 : Int32) then (fcJ_split_40 u p1 (0 : Int32)) else (fcJ_isInOpenEvent u p1).bind fun v9 => if v9 = 0 then (fcJ_split_40 u p1 (0 : Int32)) else fcJ_split_40 u p1 (1 : Int32)) else some (v2, (0 : Int32), u)
def fcA_moveAll_2 : Nat → g_S → Int32 → Int32 → Int32 → Option (g_S)
  | 0, _, _, _, _ => none
  | n + 1, u, x1, x2, x3 => if (u.1 0) ≤ x3 then (some u) else ck x3 121 <| if ¬ (u.2 13 x3.toNatClampNeg) = x1 then (fcA_moveAll_2 n u x1 x2 (x3 + (1 : Int32))) else ck x3 121 <| gl (g_sA u 13 x3 x2) fun u1 => fcA_moveAll_2 n u1 x1 x2 (x3 + (1 : Int32))
def fcA_moveAll (u : g_S) (p1 : Int32) (p2 : Int32) : Option (g_S) := fcA_moveAll_2 200 u p1 p2 (0 : Int32)
theorem fcA_moveAll_2_s (u : g_S) (n : Nat) (x1 : Int32) (x2 : Int32) (x3 : Int32) : fcA_moveAll_2 (n + 1) u x1 x2 x3 = (if (u.1 0) ≤ x3 then (some u) else ck x3 121 <| if ¬ (u.2 13 x3.toNatClampNeg) = x1 then (fcA_moveAll_2 n u x1 x2 (x3 + (1 : Int32))) else ck x3 121 <| gl (g_sA u 13 x3 x2) fun u1 => fcA_moveAll_2 n u1 x1 x2 (x3 + (1 : Int32))) := rfl
def fcA_countIn_4 (u : g_S) : Nat → Int32 → Int32 → Int32 → Option (Int32)
  | 0, _, _, _ => none
  | n + 1, x1, x2, x3 => if (u.1 0) ≤ x3 then (some x2) else ck x3 121 <| if ¬ (u.2 13 x3.toNatClampNeg) = x1 then (fcA_countIn_4 u n x1 x2 (x3 + (1 : Int32))) else fcA_countIn_4 u n x1 (x2 + (1 : Int32)) (x3 + (1 : Int32))
def fcA_countIn (u : g_S) (p1 : Int32) : Option (Int32) := fcA_countIn_4 u 200 p1 (0 : Int32) (0 : Int32)
theorem fcA_countIn_4_s (u : g_S) (n : Nat) (x1 : Int32) (x2 : Int32) (x3 : Int32) : fcA_countIn_4 u (n + 1) x1 x2 x3 = (if (u.1 0) ≤ x3 then (some x2) else ck x3 121 <| if ¬ (u.2 13 x3.toNatClampNeg) = x1 then (fcA_countIn_4 u n x1 x2 (x3 + (1 : Int32))) else fcA_countIn_4 u n x1 (x2 + (1 : Int32)) (x3 + (1 : Int32))) := rfl
def fcJ_merge_80 (u : g_S) (x1 : Int32) (x2 : Int32) (x3 : Int32) (y0 : Int32) : Option (Nat × Int32 × g_S) := (fcJ_needState y0).bind fun v4 => if v4 = 0 then (ck x1 60 <| gl (u.2 19 x1.toNatClampNeg) fun w5 => ck w5 121 <| gl (g_sA u 14 w5 x2) fun u6 => ck w5 121 <| gl (g_sA u6 15 w5 (5 : Int32)) fun u7 => (fcA_moveAll u7 x1 x3).bind fun v8 => ck x1 60 <| gl (g_sA v8 17 x1 (3 : Int32)) fun u9 => ck x1 60 <| gl (g_sA u9 19 x1 (-1 : Int32)) fun u10 => (fcA_countIn u10 x3).bind fun v11 => some (0, v11, u10)) else some (v4, (0 : Int32), u)
def fcJ_merge_33 (u : g_S) (x1 : Int32) (x2 : Int32) (y0 : Int32) : Option (Nat × Int32 × g_S) := (fcJ_needKnown y0).bind fun v2 => if v2 = 0 then (ck x2 121 <| gl (u.2 13 x2.toNatClampNeg) fun w3 => ck x1 60 <| if ¬ (u.2 17 x1.toNatClampNeg) = 0 then (fcJ_merge_80 u x1 x2 w3 (0 : Int32)) else ck w3 60 <| if ¬ (u.2 17 w3.toNatClampNeg) = 0 then (fcJ_merge_80 u x1 x2 w3 (0 : Int32)) else if x1 = w3 then (fcJ_merge_80 u x1 x2 w3 (0 : Int32)) else fcJ_merge_80 u x1 x2 w3 (1 : Int32)) else some (v2, (0 : Int32), u)
def fcJ_merge (u : g_S) (p1 : Int32) (p2 : Int32) : Option (Nat × Int32 × g_S) := (fcJ_isBelow p1 (u.1 1)).bind fun v1 => if v1 = 0 then (fcJ_merge_33 u p1 p2 (0 : Int32)) else (fcJ_isBelow p2 (u.1 0)).bind fun v12 => if v12 = 0 then (fcJ_merge_33 u p1 p2 (0 : Int32)) else fcJ_merge_33 u p1 p2 (1 : Int32)
def fcJ_watch_95 (u : g_S) (x1 : Int32) (x2 : Int32) (x3 : Int32) (x4 : Int32) (y0 : Int32) : Option (Nat × g_S) := (fcJ_needState y0).bind fun v5 => if v5 = 0 then (ck x1 60 <| gl (g_sA u 20 x1 x2) fun u6 => ck x1 60 <| gl (g_sA u6 21 x1 (if x4 < x3 then x4 else x3)) fun u7 => ck x1 60 <| gl (g_sA u7 22 x1 (if x3 < x4 then x4 else x3)) fun u8 => some (0, u8)) else some (v5, u)
def fcJ_watch_75 (u : g_S) (x1 : Int32) (x2 : Int32) (x3 : Int32) (x4 : Int32) (y0 : Int32) : Option (Nat × g_S) := (fcJ_needRange y0).bind fun v4 => if v4 = 0 then (ck x1 60 <| if ¬ (u.2 17 x1.toNatClampNeg) = 0 then (fcJ_watch_95 u x1 x2 x3 x4 (0 : Int32)) else fcJ_watch_95 u x1 x2 x3 x4 (1 : Int32)) else some (v4, u)
def fcJ_watch_28 (u : g_S) (x1 : Int32) (x2 : Int32) (x3 : Int32) (x4 : Int32) (y0 : Int32) : Option (Nat × g_S) := (fcJ_needKnown y0).bind fun v2 => if v2 = 0 then (ck x2 8 <| (fcJ_isBelow x3 (u.2 5 x2.toNatClampNeg)).bind fun v3 => if v3 = 0 then (fcJ_watch_75 u x1 x2 x3 x4 (0 : Int32)) else ck x2 8 <| (fcJ_isBelow x4 (u.2 5 x2.toNatClampNeg)).bind fun v9 => if v9 = 0 then (fcJ_watch_75 u x1 x2 x3 x4 (0 : Int32)) else if x3 = x4 then (fcJ_watch_75 u x1 x2 x3 x4 (0 : Int32)) else fcJ_watch_75 u x1 x2 x3 x4 (1 : Int32)) else some (v2, u)
def fcJ_watch (u : g_S) (p1 : Int32) (p2 : Int32) (p3 : Int32) (p4 : Int32) : Option (Nat × g_S) := (fcJ_isBelow p1 (u.1 1)).bind fun v1 => if v1 = 0 then (fcJ_watch_28 u p1 p2 p3 p4 (0 : Int32)) else (fcJ_isBelow p2 (8 : Int32)).bind fun v10 => if v10 = 0 then (fcJ_watch_28 u p1 p2 p3 p4 (0 : Int32)) else fcJ_watch_28 u p1 p2 p3 p4 (1 : Int32)
def fcJ_state_62 (u : g_S) (x1 : Int32) (x2 : Int32) (y0 : Int32) : Option (Nat × g_S) := (fcJ_needState y0).bind fun v4 => if v4 = 0 then (ck x1 60 <| gl (g_sA u 17 x1 x2) fun u5 => some (0, u5)) else some (v4, u)
def fcJ_state_28 (u : g_S) (x1 : Int32) (x2 : Int32) (y0 : Int32) : Option (Nat × g_S) := (fcJ_needRange y0).bind fun v3 => if v3 = 0 then (ck x1 60 <| if (u.2 17 x1.toNatClampNeg) = x2 then (fcJ_state_62 u x1 x2 (0 : Int32)) else ck x1 60 <| if (u.2 17 x1.toNatClampNeg) = (3 : Int32) then (fcJ_state_62 u x1 x2 (0 : Int32)) else fcJ_state_62 u x1 x2 (1 : Int32)) else some (v3, u)
def fcJ_state (u : g_S) (p1 : Int32) (p2 : Int32) : Option (Nat × g_S) := (fcJ_isBelow p1 (u.1 1)).bind fun v1 => (fcJ_needKnown v1).bind fun v2 => if v2 = 0 then (if p2 < 0 then (fcJ_state_28 u p1 p2 (0 : Int32)) else if (2 : Int32) < p2 then (fcJ_state_28 u p1 p2 (0 : Int32)) else fcJ_state_28 u p1 p2 (1 : Int32)) else some (v2, u)
def fcJ_needTwoCalls (u : g_S) (p1 : Int32) (p2 : Int32) : Option (Nat) := (fcJ_isBelow p1 (u.1 0)).bind fun v1 => if v1 = 0 then ((fcJ_needKnown (0 : Int32)).bind fun v2 => if v2 = 0 then (some 0) else some v2) else (fcJ_isBelow p2 (u.1 0)).bind fun v3 => if v3 = 0 then ((fcJ_needKnown (0 : Int32)).bind fun v4 => if v4 = 0 then (some 0) else some v4) else if p1 = p2 then ((fcJ_needKnown (0 : Int32)).bind fun v5 => if v5 = 0 then (some 0) else some v5) else (fcJ_needKnown (1 : Int32)).bind fun v6 => if v6 = 0 then (some 0) else some v6
def fcJ_share (u : g_S) (p1 : Int32) (p2 : Int32) : Option (Nat × Int32) := (fcJ_needTwoCalls u p1 p2).bind fun v1 => if v1 = 0 then (ck (if p1 < p2 then p2 else p1) 121 <| gl (u.2 8 (if p1 < p2 then p2 else p1).toNatClampNeg) fun w2 => ck p1 121 <| ck p2 121 <| (fcU_weigh u w2 ((u.2 10 p1.toNatClampNeg) ||| (u.2 10 p2.toNatClampNeg))).bind fun v3 => if ¬ v3 = 0 then (ck p1 121 <| ck p2 121 <| (fcU_weigh u w2 ((u.2 10 p1.toNatClampNeg) &&& (u.2 10 p2.toNatClampNeg))).bind fun v4 => if v3 = 0 then none else some (0, (((1000 : Int32) * v4) / v3))) else some (5, (0 : Int32))) else some (v1, (0 : Int32))
def fcJ_agree (u : g_S) (p1 : Int32) (p2 : Int32) : Option (Nat × Int32) := (fcJ_needTwoCalls u p1 p2).bind fun v1 => if v1 = 0 then ((fcJ_agreement u (if p2 < p1 then p2 else p1) (if p1 < p2 then p2 else p1)).bind fun v2 => some (0, v2)) else some (v1, (0 : Int32))
def fcJ_callAt_27 (u : g_S) (x1 : Int32) (x2 : Int32) (y0 : Int32) : Option (Nat × Int32) := (fcJ_needKnown y0).bind fun v2 => if v2 = 0 then (if x2 = (0 : Int32) then (ck x1 121 <| some (0, (u.2 13 x1.toNatClampNeg))) else if x2 = (1 : Int32) then (ck x1 121 <| some (0, (u.2 14 x1.toNatClampNeg))) else if x2 = (2 : Int32) then (ck x1 121 <| some (0, (u.2 16 x1.toNatClampNeg))) else if x2 = (3 : Int32) then (ck x1 121 <| some (0, (u.2 8 x1.toNatClampNeg))) else ck x1 121 <| some (0, (u.2 15 x1.toNatClampNeg))) else some (v2, (0 : Int32))
def fcJ_callAt (u : g_S) (p1 : Int32) (p2 : Int32) : Option (Nat × Int32) := (fcJ_isBelow p1 (u.1 0)).bind fun v1 => if v1 = 0 then (fcJ_callAt_27 u p1 p2 (0 : Int32)) else (fcJ_isBelow p2 (5 : Int32)).bind fun v3 => if v3 = 0 then (fcJ_callAt_27 u p1 p2 (0 : Int32)) else fcJ_callAt_27 u p1 p2 (1 : Int32)
def fcA_weighCall_16 (u : g_S) (x1 : Int32) (x2 : Int32) : Option (Int32) := ck x1 121 <| if (u.2 9 x1.toNatClampNeg) = (-1 : Int32) then (some x2) else some (x2 + (1 : Int32))
def fcA_weighCall (u : g_S) (p1 : Int32) : Option (Int32) := ck p1 121 <| if ((u.2 16 p1.toNatClampNeg) &&& (1 : Int32)) = 0 then (fcA_weighCall_16 u p1 (4 : Int32)) else fcA_weighCall_16 u p1 ((4 : Int32) + (-2 : Int32))
def fcA_weighEvent_4 (u : g_S) : Nat → Int32 → Int32 → Int32 → Option (Int32)
  | 0, _, _, _ => none
  | n + 1, x1, x2, x3 => if (u.1 0) ≤ x3 then (some x2) else ck x3 121 <| if ¬ (u.2 13 x3.toNatClampNeg) = x1 then (fcA_weighEvent_4 u n x1 x2 (x3 + (1 : Int32))) else (fcA_isHoax u x3).bind fun v1 => if ¬ v1 = 0 then (fcA_weighEvent_4 u n x1 x2 (x3 + (1 : Int32))) else (fcA_weighCall u x3).bind fun v2 => gl (x2 + v2) fun w3 => fcA_weighEvent_4 u n x1 w3 (x3 + (1 : Int32))
def fcA_weighEvent (u : g_S) (p1 : Int32) : Option (Int32) := fcA_weighEvent_4 u 200 p1 (0 : Int32) (0 : Int32)
theorem fcA_weighEvent_4_s (u : g_S) (n : Nat) (x1 : Int32) (x2 : Int32) (x3 : Int32) : fcA_weighEvent_4 u (n + 1) x1 x2 x3 = (if (u.1 0) ≤ x3 then (some x2) else ck x3 121 <| if ¬ (u.2 13 x3.toNatClampNeg) = x1 then (fcA_weighEvent_4 u n x1 x2 (x3 + (1 : Int32))) else (fcA_isHoax u x3).bind fun v1 => if ¬ v1 = 0 then (fcA_weighEvent_4 u n x1 x2 (x3 + (1 : Int32))) else (fcA_weighCall u x3).bind fun v2 => gl (x2 + v2) fun w3 => fcA_weighEvent_4 u n x1 w3 (x3 + (1 : Int32))) := rfl
def fcA_pointOf_2 (u : g_S) : Nat → Int32 → Int32 → Option (Int32)
  | 0, _, _ => none
  | n + 1, x1, x2 => if (u.1 0) ≤ x2 then (some (-1 : Int32)) else ck x2 121 <| if ¬ (u.2 13 x2.toNatClampNeg) = x1 then (fcA_pointOf_2 u n x1 (x2 + (1 : Int32))) else (fcA_isHoax u x2).bind fun v1 => if ¬ v1 = 0 then (fcA_pointOf_2 u n x1 (x2 + (1 : Int32))) else ck x2 121 <| if (u.2 9 x2.toNatClampNeg) = (-1 : Int32) then (fcA_pointOf_2 u n x1 (x2 + (1 : Int32))) else ck x2 121 <| some (u.2 9 x2.toNatClampNeg)
def fcA_pointOf (u : g_S) (p1 : Int32) : Option (Int32) := fcA_pointOf_2 u 200 p1 (0 : Int32)
theorem fcA_pointOf_2_s (u : g_S) (n : Nat) (x1 : Int32) (x2 : Int32) : fcA_pointOf_2 u (n + 1) x1 x2 = (if (u.1 0) ≤ x2 then (some (-1 : Int32)) else ck x2 121 <| if ¬ (u.2 13 x2.toNatClampNeg) = x1 then (fcA_pointOf_2 u n x1 (x2 + (1 : Int32))) else (fcA_isHoax u x2).bind fun v1 => if ¬ v1 = 0 then (fcA_pointOf_2 u n x1 (x2 + (1 : Int32))) else ck x2 121 <| if (u.2 9 x2.toNatClampNeg) = (-1 : Int32) then (fcA_pointOf_2 u n x1 (x2 + (1 : Int32))) else ck x2 121 <| some (u.2 9 x2.toNatClampNeg)) := rfl
def fcA_latestTimeOf_7 (u : g_S) : Nat → Int32 → Int32 → Option (Int32)
  | 0, _, _ => none
  | n + 1, x1, x2 => if x2 < 0 then (some (-1 : Int32)) else ck x2 121 <| if ¬ (u.2 13 x2.toNatClampNeg) = x1 then (fcA_latestTimeOf_7 u n x1 (x2 + (-1 : Int32))) else ck x2 121 <| some (u.2 12 x2.toNatClampNeg)
def fcA_latestTimeOf (u : g_S) (p1 : Int32) : Option (Int32) := gl ((u.1 0) - (1 : Int32)) fun w1 => fcA_latestTimeOf_7 u 200 p1 w1
theorem fcA_latestTimeOf_7_s (u : g_S) (n : Nat) (x1 : Int32) (x2 : Int32) : fcA_latestTimeOf_7 u (n + 1) x1 x2 = (if x2 < 0 then (some (-1 : Int32)) else ck x2 121 <| if ¬ (u.2 13 x2.toNatClampNeg) = x1 then (fcA_latestTimeOf_7 u n x1 (x2 + (-1 : Int32))) else ck x2 121 <| some (u.2 12 x2.toNatClampNeg)) := rfl
def fcJ_eventAt_28 (u : g_S) (x1 : Int32) (x2 : Int32) (y0 : Int32) : Option (Nat × Int32) := (fcJ_needKnown y0).bind fun v2 => if v2 = 0 then (if x2 = (0 : Int32) then (ck x1 60 <| some (0, (u.2 17 x1.toNatClampNeg))) else if x2 = (1 : Int32) then ((fcA_countIn u x1).bind fun v3 => some (0, v3)) else if x2 = (2 : Int32) then (ck x1 60 <| some (0, (u.2 18 x1.toNatClampNeg))) else if x2 = (3 : Int32) then ((fcA_weighEvent u x1).bind fun v4 => some (0, v4)) else if x2 = (4 : Int32) then ((fcA_pointOf u x1).bind fun v5 => some (0, v5)) else if x2 = (5 : Int32) then (ck x1 60 <| some (0, (u.2 19 x1.toNatClampNeg))) else (fcA_latestTimeOf u x1).bind fun v6 => some (0, v6)) else some (v2, (0 : Int32))
def fcJ_eventAt (u : g_S) (p1 : Int32) (p2 : Int32) : Option (Nat × Int32) := (fcJ_isBelow p1 (u.1 1)).bind fun v1 => if v1 = 0 then (fcJ_eventAt_28 u p1 p2 (0 : Int32)) else (fcJ_isBelow p2 (7 : Int32)).bind fun v7 => if v7 = 0 then (fcJ_eventAt_28 u p1 p2 (0 : Int32)) else fcJ_eventAt_28 u p1 p2 (1 : Int32)
def fcA_memberOf_5 (u : g_S) : Nat → Int32 → Int32 → Int32 → Int32 → Option (Int32)
  | 0, _, _, _, _ => none
  | n + 1, x1, x2, x3, x4 => if (u.1 0) ≤ x4 then (some (-1 : Int32)) else ck x4 121 <| if ¬ (u.2 13 x4.toNatClampNeg) = x1 then (fcA_memberOf_5 u n x1 x2 x3 (x4 + (1 : Int32))) else if ¬ x3 = x2 then (fcA_memberOf_5 u n x1 x2 (x3 + (1 : Int32)) (x4 + (1 : Int32))) else some x4
def fcA_memberOf (u : g_S) (p1 : Int32) (p2 : Int32) : Option (Int32) := fcA_memberOf_5 u 200 p1 p2 (0 : Int32) (0 : Int32)
theorem fcA_memberOf_5_s (u : g_S) (n : Nat) (x1 : Int32) (x2 : Int32) (x3 : Int32) (x4 : Int32) : fcA_memberOf_5 u (n + 1) x1 x2 x3 x4 = (if (u.1 0) ≤ x4 then (some (-1 : Int32)) else ck x4 121 <| if ¬ (u.2 13 x4.toNatClampNeg) = x1 then (fcA_memberOf_5 u n x1 x2 x3 (x4 + (1 : Int32))) else if ¬ x3 = x2 then (fcA_memberOf_5 u n x1 x2 (x3 + (1 : Int32)) (x4 + (1 : Int32))) else some x4) := rfl
def fcJ_member (u : g_S) (p1 : Int32) (p2 : Int32) : Option (Nat × Int32) := (fcJ_isBelow p1 (u.1 1)).bind fun v1 => (fcJ_needKnown v1).bind fun v2 => if v2 = 0 then ((fcA_memberOf u p1 p2).bind fun v3 => if v3 = (-1 : Int32) then ((fcJ_needRange (0 : Int32)).bind fun v4 => if v4 = 0 then (some (0, v3)) else some (v4, (0 : Int32))) else (fcJ_needRange (1 : Int32)).bind fun v5 => if v5 = 0 then (some (0, v3)) else some (v5, (0 : Int32))) else some (v2, (0 : Int32))
def fcE_countOpen_4 (u : g_S) : Nat → Int32 → Int32 → Option (Int32)
  | 0, _, _ => none
  | n + 1, x1, x2 => if (u.1 1) ≤ x2 then (some x1) else ck x2 60 <| if ¬ (u.2 17 x2.toNatClampNeg) = 0 then (fcE_countOpen_4 u n x1 (x2 + (1 : Int32))) else fcE_countOpen_4 u n (x1 + (1 : Int32)) (x2 + (1 : Int32))
def fcE_countOpen (u : g_S)  : Option (Int32) := fcE_countOpen_4 u 200 (0 : Int32) (0 : Int32)
theorem fcE_countOpen_4_s (u : g_S) (n : Nat) (x1 : Int32) (x2 : Int32) : fcE_countOpen_4 u (n + 1) x1 x2 = (if (u.1 1) ≤ x2 then (some x1) else ck x2 60 <| if ¬ (u.2 17 x2.toNatClampNeg) = 0 then (fcE_countOpen_4 u n x1 (x2 + (1 : Int32))) else fcE_countOpen_4 u n (x1 + (1 : Int32)) (x2 + (1 : Int32))) := rfl
def fcA_countHoaxes_4 (u : g_S) : Nat → Int32 → Int32 → Option (Int32)
  | 0, _, _ => none
  | n + 1, x1, x2 => if (u.1 0) ≤ x2 then (some x1) else (fcA_isHoax u x2).bind fun v1 => if v1 = 0 then (fcA_countHoaxes_4 u n x1 (x2 + (1 : Int32))) else fcA_countHoaxes_4 u n (x1 + (1 : Int32)) (x2 + (1 : Int32))
def fcA_countHoaxes (u : g_S)  : Option (Int32) := fcA_countHoaxes_4 u 200 (0 : Int32) (0 : Int32)
theorem fcA_countHoaxes_4_s (u : g_S) (n : Nat) (x1 : Int32) (x2 : Int32) : fcA_countHoaxes_4 u (n + 1) x1 x2 = (if (u.1 0) ≤ x2 then (some x1) else (fcA_isHoax u x2).bind fun v1 => if v1 = 0 then (fcA_countHoaxes_4 u n x1 (x2 + (1 : Int32))) else fcA_countHoaxes_4 u n (x1 + (1 : Int32)) (x2 + (1 : Int32))) := rfl
def fcJ_count (u : g_S) (p1 : Int32) : Option (Nat × Int32) := (fcJ_isBelow p1 (4 : Int32)).bind fun v1 => (fcJ_needKnown v1).bind fun v2 => if v2 = 0 then (if p1 = (0 : Int32) then (some (0, (u.1 0))) else if p1 = (1 : Int32) then (some (0, (u.1 1))) else if p1 = (2 : Int32) then ((fcE_countOpen u ).bind fun v3 => some (0, v3)) else (fcA_countHoaxes u ).bind fun v4 => some (0, v4)) else some (v2, (0 : Int32))
def fm_thrown (u : g_S)  : Option (Int32) := some (u.1 0)
def fm_throwing_26 (u : g_S) (y1 : Int32) : Option (Int32 × g_S) := gl (g_sI u 0 y1) fun u1 => if (u1.1 0) ≤ 0 then (some ((0 : Int32), u1)) else some ((1 : Int32), u1)
def fm_throwing (u : g_S) (p1 : Int32) (p2 : Int32) (p3 : Int32) : Option (Int32 × g_S) := if p1 = 0 then (if p2 = 0 then (if p3 = 0 then (fm_throwing_26 u (0 : Int32)) else fm_throwing_26 u (3 : Int32)) else fm_throwing_26 u (2 : Int32)) else fm_throwing_26 u (1 : Int32)
def fm_in (p0 : Int32) (p1 : Int32) (p2 : Int32) : Option (Int32) := if p0 < p1 then (some (0 : Int32)) else if p2 < p0 then (some (0 : Int32)) else some (1 : Int32)
def fm_isKind (p0 : Int32) : Option (Int32) := (fm_in p0 (0 : Int32) (7 : Int32)).bind fun v1 => if v1 = 0 ∨ v1 = 1 then some v1 else none
def fm_isRoad (p0 : Int32) : Option (Int32) := (fm_in p0 (0 : Int32) (7 : Int32)).bind fun v1 => if v1 = 0 ∨ v1 = 1 then some v1 else none
def fm_isCall (u : g_S) (p1 : Int32) : Option (Int32) := (fm_in p1 (0 : Int32) ((u.1 1) - (1 : Int32))).bind fun v1 => if v1 = 0 ∨ v1 = 1 then some v1 else none
def fm_isEvent (u : g_S) (p1 : Int32) : Option (Int32) := (fm_in p1 (0 : Int32) ((u.1 2) - (1 : Int32))).bind fun v1 => if v1 = 0 ∨ v1 = 1 then some v1 else none
def fm_isPoint (p0 : Int32) : Option (Int32) := (fm_in p0 (0 : Int32) (99999999 : Int32)).bind fun v1 => if v1 = 0 ∨ v1 = 1 then some v1 else none
def fm_rule_63 (u : g_S) (x1 : Int32) (x2 : Int32) (x3 : Int32) (x4 : Int32) (x5 : Int32) (x6 : Int32) (y1 : Int32) : Option (g_S) := (fm_throwing u y1 x6 (0 : Int32)).bind fun v3 => if v3.1 = 0 then (ck x1 8 <| gl (g_sA v3.2 0 x1 x2) fun u4 => ck x1 8 <| gl (g_sA u4 1 x1 x3) fun u5 => ck x1 8 <| gl (g_sA u5 2 x1 x4) fun u6 => ck x1 8 <| gl (g_sA u6 3 x1 x5) fun u7 => some u7) else some v3.2
def fm_rule_48 (u : g_S) (x1 : Int32) (x2 : Int32) (x3 : Int32) (x4 : Int32) (x5 : Int32) (y0 : Int32) : Option (g_S) := (fm_isKind x1).bind fun v2 => if ¬ v2 = 0 then (fm_rule_63 u x1 x2 x3 x4 x5 y0 (0 : Int32)) else fm_rule_63 u x1 x2 x3 x4 x5 y0 (1 : Int32)
def fm_rule (u : g_S) (p1 : Int32) (p2 : Int32) (p3 : Int32) (p4 : Int32) (p5 : Int32) : Option (g_S) := (fm_in p2 (0 : Int32) (20000 : Int32)).bind fun v1 => if v1 = 0 then (fm_rule_48 u p1 p2 p3 p4 p5 (1 : Int32)) else (fm_in p3 (0 : Int32) (100000 : Int32)).bind fun v8 => if v8 = 0 then (fm_rule_48 u p1 p2 p3 p4 p5 (1 : Int32)) else (fm_in p4 (0 : Int32) (100 : Int32)).bind fun v9 => if v9 = 0 then (fm_rule_48 u p1 p2 p3 p4 p5 (1 : Int32)) else (fm_in p5 (1 : Int32) (100 : Int32)).bind fun v10 => if ¬ v10 = 0 then (fm_rule_48 u p1 p2 p3 p4 p5 (0 : Int32)) else fm_rule_48 u p1 p2 p3 p4 p5 (1 : Int32)
def fm_weight_38 (u : g_S) (x1 : Int32) (x2 : Int32) (x3 : Int32) (y1 : Int32) (y2 : Int32) : Option (g_S) := (fm_throwing u y1 y2 (0 : Int32)).bind fun v3 => if v3.1 = 0 then (ck (((32 : Int32) * x1) + x2) 256 <| gl (g_sA v3.2 4 (((32 : Int32) * x1) + x2) x3) fun u4 => some u4) else some v3.2
def fm_weight_23 (u : g_S) (x1 : Int32) (x2 : Int32) (x3 : Int32) (y1 : Int32) : Option (g_S) := (fm_in x3 (0 : Int32) (100 : Int32)).bind fun v2 => if ¬ v2 = 0 then (fm_weight_38 u x1 x2 x3 y1 (0 : Int32)) else fm_weight_38 u x1 x2 x3 y1 (1 : Int32)
def fm_weight (u : g_S) (p1 : Int32) (p2 : Int32) (p3 : Int32) : Option (g_S) := (fm_isKind p1).bind fun v1 => if v1 = 0 then (fm_weight_23 u p1 p2 p3 (1 : Int32)) else (fm_in p2 (0 : Int32) (31 : Int32)).bind fun v5 => if ¬ v5 = 0 then (fm_weight_23 u p1 p2 p3 (0 : Int32)) else fm_weight_23 u p1 p2 p3 (1 : Int32)
def fm_point_59 (u : g_S) (x1 : Int32) (x2 : Int32) (y1 : Int32) (y2 : Int32) (y3 : Int32) : Option (Int32 × g_S) := (fm_throwing u y1 y2 y3).bind fun v4 => if v4.1 = 0 then (ck x1 8 <| ck (((8 : Int32) * x1) + (v4.2.2 5 x1.toNatClampNeg)) 64 <| gl (g_sA v4.2 6 (((8 : Int32) * x1) + (v4.2.2 5 x1.toNatClampNeg)) x2) fun u5 => ck x1 8 <| ck x1 8 <| gl (g_sA u5 5 x1 ((u5.2 5 x1.toNatClampNeg) + (1 : Int32))) fun u6 => ck x1 8 <| some ((u6.2 5 x1.toNatClampNeg), u6)) else some ((0 : Int32), v4.2)
def fm_point_48 (u : g_S) (x1 : Int32) (x2 : Int32) (y1 : Int32) (y2 : Int32) (y4 : Int32) : Option (Int32 × g_S) := ck y4 8 <| if ¬ (u.2 5 y4.toNatClampNeg) = (8 : Int32) then (fm_point_59 u x1 x2 y1 y2 (0 : Int32)) else fm_point_59 u x1 x2 y1 y2 (1 : Int32)
def fm_point_25 (u : g_S) (x1 : Int32) (x2 : Int32) (y1 : Int32) (y2 : Int32) : Option (Int32 × g_S) := (fm_isRoad x1).bind fun v3 => if v3 = 0 then (fm_point_59 u x1 x2 y1 y2 (0 : Int32)) else (fm_isRoad x1).bind fun v7 => if v7 = 0 then (fm_point_48 u x1 x2 y1 y2 (0 : Int32)) else fm_point_48 u x1 x2 y1 y2 x1
def fm_point_13 (u : g_S) (x1 : Int32) (x2 : Int32) (y1 : Int32) : Option (Int32 × g_S) := (fm_isPoint x2).bind fun v2 => if ¬ v2 = 0 then (fm_point_25 u x1 x2 y1 (0 : Int32)) else fm_point_25 u x1 x2 y1 (1 : Int32)
def fm_point (u : g_S) (p1 : Int32) (p2 : Int32) : Option (Int32 × g_S) := (fm_isRoad p1).bind fun v1 => if ¬ v1 = 0 then (fm_point_13 u p1 p2 (0 : Int32)) else fm_point_13 u p1 p2 (1 : Int32)
def fm_squareOf (p0 : Int32) (p1 : Int32) : Option (Int64) := gl (Int32.toInt64 ((p0 / (10000 : Int32)) - (p1 / (10000 : Int32)))) fun w1 => gl (Int32.toInt64 ((p0 - p0 / (10000 : Int32) * (10000 : Int32)) - (p1 - p1 / (10000 : Int32) * (10000 : Int32)))) fun w2 => some ((w1 * w1) + (w2 * w2))
def fm_sum_5 (u : g_S) : Nat → Int32 → Int32 → Int32 → Int32 → Option (Int32)
  | 0, _, _, _, _ => none
  | n + 1, x1, x2, x3, x4 => if (32 : Int32) ≤ x4 then (some x3) else if ¬ ((x1 >>> (x4 &&& 31)) &&& (1 : Int32)) = (1 : Int32) then (gl (x3 + (0 : Int32)) fun w1 => fm_sum_5 u n x1 x2 w1 (x4 + (1 : Int32))) else ck (((32 : Int32) * x2) + x4) 256 <| gl (x3 + (u.2 4 (((32 : Int32) * x2) + x4).toNatClampNeg)) fun w2 => fm_sum_5 u n x1 x2 w2 (x4 + (1 : Int32))
def fm_sum (u : g_S) (p1 : Int32) (p2 : Int32) : Option (Int32) := fm_sum_5 u 200 p1 p2 (0 : Int32) (0 : Int32)
theorem fm_sum_5_s (u : g_S) (n : Nat) (x1 : Int32) (x2 : Int32) (x3 : Int32) (x4 : Int32) : fm_sum_5 u (n + 1) x1 x2 x3 x4 = (if (32 : Int32) ≤ x4 then (some x3) else if ¬ ((x1 >>> (x4 &&& 31)) &&& (1 : Int32)) = (1 : Int32) then (gl (x3 + (0 : Int32)) fun w1 => fm_sum_5 u n x1 x2 w1 (x4 + (1 : Int32))) else ck (((32 : Int32) * x2) + x4) 256 <| gl (x3 + (u.2 4 (((32 : Int32) * x2) + x4).toNatClampNeg)) fun w2 => fm_sum_5 u n x1 x2 w2 (x4 + (1 : Int32))) := rfl
def fm_isEnough (u : g_S) (p1 : Int32) (p2 : Int32) (p3 : Int32) : Option (Int32) := (fm_sum u (p1 &&& p2) p3).bind fun v1 => ck p3 8 <| ck p3 8 <| (fm_sum u (p1 ||| p2) p3).bind fun v2 => if (v1 * (u.2 3 p3.toNatClampNeg)) < ((u.2 2 p3.toNatClampNeg) * v2) then (some (0 : Int32)) else some (1 : Int32)
def fm_meets_157 (u : g_S) (x1 : Int32) (x2 : Int32) (x4 : Int32) (x6 : Int32) : Option (Int32) := if x6 = 0 then (some (0 : Int32)) else ck x1 120 <| (fm_isEnough u (u.2 10 x1.toNatClampNeg) x4 x2).bind fun v2 => if v2 = 0 then (some (0 : Int32)) else some (2 : Int32)
def fm_meets_144 (u : g_S) (y0 : Int32) : Option (Int32) := if y0 = 0 then (some (0 : Int32)) else some (1 : Int32)
def fm_meets_46 (u : g_S) (x1 : Int32) (x2 : Int32) (x3 : Int32) (x4 : Int32) (y0 : Int32) : Option (Int32) := ck x1 120 <| if (u.2 9 x1.toNatClampNeg) < 0 then (fm_meets_157 u x1 x2 x4 y0) else if x3 < 0 then (fm_meets_157 u x1 x2 x4 y0) else ck x1 120 <| (fm_squareOf (u.2 9 x1.toNatClampNeg) x3).bind fun v3 => ck x2 8 <| ck x2 8 <| gl ((Int32.toInt64 (u.2 0 x2.toNatClampNeg)) * (Int32.toInt64 (u.2 0 x2.toNatClampNeg))) fun w4 => if y0 = 0 then (if 0 < (lg_cmp ((4 : Int64) * v3) w4) then (fm_meets_144 u (0 : Int32)) else fm_meets_144 u (1 : Int32)) else if 0 < (lg_cmp v3 w4) then (fm_meets_144 u (0 : Int32)) else ck x1 120 <| (fm_isEnough u (u.2 10 x1.toNatClampNeg) x4 x2).bind fun v5 => if v5 = 0 then (fm_meets_144 u (0 : Int32)) else fm_meets_144 u (1 : Int32)
def fm_meets (u : g_S) (p1 : Int32) (p2 : Int32) (p3 : Int32) (p4 : Int32) (p5 : Int32) : Option (Int32) := ck p1 120 <| ck p2 8 <| if (lg_cmp ((Int32.toInt64 p5) - (Int32.toInt64 (u.2 11 p1.toNatClampNeg))) (Int32.toInt64 (u.2 1 p2.toNatClampNeg))) ≤ 0 then (ck p1 120 <| (fm_sum u ((u.2 10 p1.toNatClampNeg) ||| p4) p2).bind fun v1 => if v1 ≤ 0 then (fm_meets_46 u p1 p2 p3 p4 (0 : Int32)) else fm_meets_46 u p1 p2 p3 p4 (1 : Int32)) else some (0 : Int32)
def fm_isOpen (u : g_S) (p1 : Int32) : Option (Int32) := ck p1 120 <| ck (u.2 12 p1.toNatClampNeg) 60 <| if ¬ (u.2 16 (u.2 12 p1.toNatClampNeg).toNatClampNeg) = 0 then (some (0 : Int32)) else some (1 : Int32)
def fm_isHoax (u : g_S) (p1 : Int32) : Option (Int32) := ck p1 120 <| if ((u.2 14 p1.toNatClampNeg) &&& (4 : Int32)) = 0 then (some (0 : Int32)) else some (1 : Int32)
def fm_firstOf_2 (u : g_S) : Nat → Int32 → Int32 → Option (Int32)
  | 0, _, _ => none
  | n + 1, x1, x2 => if (u.1 1) ≤ x2 then (some (-1 : Int32)) else ck x2 120 <| if ¬ (u.2 12 x2.toNatClampNeg) = x1 then (fm_firstOf_2 u n x1 (x2 + (1 : Int32))) else ck x2 120 <| if 0 ≤ (u.2 13 x2.toNatClampNeg) then (fm_firstOf_2 u n x1 (x2 + (1 : Int32))) else some x2
def fm_firstOf (u : g_S) (p1 : Int32) : Option (Int32) := fm_firstOf_2 u 200 p1 (0 : Int32)
theorem fm_firstOf_2_s (u : g_S) (n : Nat) (x1 : Int32) (x2 : Int32) : fm_firstOf_2 u (n + 1) x1 x2 = (if (u.1 1) ≤ x2 then (some (-1 : Int32)) else ck x2 120 <| if ¬ (u.2 12 x2.toNatClampNeg) = x1 then (fm_firstOf_2 u n x1 (x2 + (1 : Int32))) else ck x2 120 <| if 0 ≤ (u.2 13 x2.toNatClampNeg) then (fm_firstOf_2 u n x1 (x2 + (1 : Int32))) else some x2) := rfl
def fm_isBeside (p0 : Int32) (p1 : Int32) (p2 : Int32) : Option (Int32) := gl (Int32.toInt64 ((p0 / (10000 : Int32)) - (p1 / (10000 : Int32)))) fun w1 => gl (Int32.toInt64 ((p0 - p0 / (10000 : Int32) * (10000 : Int32)) - (p1 - p1 / (10000 : Int32) * (10000 : Int32)))) fun w2 => gl (Int32.toInt64 ((p2 / (10000 : Int32)) - (p1 / (10000 : Int32)))) fun w3 => gl (Int32.toInt64 ((p2 - p2 / (10000 : Int32) * (10000 : Int32)) - (p1 - p1 / (10000 : Int32) * (10000 : Int32)))) fun w4 => gl ((w1 * w3) + (w2 * w4)) fun w5 => gl ((w3 * w3) + (w4 * w4)) fun w6 => if 0 < (lg_cmp w5 (0 : Int64)) then (if (lg_cmp w5 w6) < 0 then (gl ((w1 * w4) - (w2 * w3)) fun w7 => if 0 < (lg_cmp (w7 * w7) ((2500 : Int64) * w6)) then (some (0 : Int32)) else some (1 : Int32)) else (fm_squareOf p0 p2).bind fun v8 => if 0 < (lg_cmp v8 (2500 : Int64)) then (some (0 : Int32)) else some (1 : Int32)) else if 0 < (lg_cmp ((w1 * w1) + (w2 * w2)) (2500 : Int64)) then (some (0 : Int32)) else some (1 : Int32)
def fm_isOn_77 (u : g_S) : Nat → Int32 → Int32 → Int32 → Int32 → Int32 → Option (Int32)
  | 0, _, _, _, _, _ => none
  | n + 1, x1, x2, x5, x6, x7 => if x5 ≤ x7 then (if x6 = 0 ∨ x6 = 1 then some x6 else none) else if ¬ x6 = 0 then (fm_isOn_77 u n x1 x2 x5 (1 : Int32) (x7 + (1 : Int32))) else ck x1 60 <| ck (((8 : Int32) * (u.2 17 x1.toNatClampNeg)) + x7) 64 <| ck x1 60 <| ck ((((8 : Int32) * (u.2 17 x1.toNatClampNeg)) + x7) + (1 : Int32)) 64 <| (fm_isBeside x2 (u.2 6 (((8 : Int32) * (u.2 17 x1.toNatClampNeg)) + x7).toNatClampNeg) (u.2 6 ((((8 : Int32) * (u.2 17 x1.toNatClampNeg)) + x7) + (1 : Int32)).toNatClampNeg)).bind fun v2 => if v2 = 0 then (fm_isOn_77 u n x1 x2 x5 (0 : Int32) (x7 + (1 : Int32))) else fm_isOn_77 u n x1 x2 x5 (1 : Int32) (x7 + (1 : Int32))
def fm_isOn_50 (u : g_S) (x1 : Int32) (x2 : Int32) (y0 : Int32) : Option (Int32) := ck x1 60 <| ck x1 60 <| gl (((u.2 18 x1.toNatClampNeg) + (u.2 19 x1.toNatClampNeg)) - y0) fun w1 => fm_isOn_77 u 200 x1 x2 w1 (0 : Int32) y0
def fm_isOn (u : g_S) (p1 : Int32) (p2 : Int32) (p3 : Int32) : Option (Int32) := if 0 ≤ p2 then (ck p1 60 <| ck p1 60 <| if (u.2 19 p1.toNatClampNeg) ≤ (u.2 18 p1.toNatClampNeg) then (ck p1 60 <| fm_isOn_50 u p1 p2 (u.2 19 p1.toNatClampNeg)) else ck p1 60 <| fm_isOn_50 u p1 p2 (u.2 18 p1.toNatClampNeg)) else ck p1 60 <| if ¬ p3 = (u.2 17 p1.toNatClampNeg) then (some (0 : Int32)) else some (1 : Int32)
theorem fm_isOn_77_s (u : g_S) (n : Nat) (x1 : Int32) (x2 : Int32) (x5 : Int32) (x6 : Int32) (x7 : Int32) : fm_isOn_77 u (n + 1) x1 x2 x5 x6 x7 = (if x5 ≤ x7 then (if x6 = 0 ∨ x6 = 1 then some x6 else none) else if ¬ x6 = 0 then (fm_isOn_77 u n x1 x2 x5 (1 : Int32) (x7 + (1 : Int32))) else ck x1 60 <| ck (((8 : Int32) * (u.2 17 x1.toNatClampNeg)) + x7) 64 <| ck x1 60 <| ck ((((8 : Int32) * (u.2 17 x1.toNatClampNeg)) + x7) + (1 : Int32)) 64 <| (fm_isBeside x2 (u.2 6 (((8 : Int32) * (u.2 17 x1.toNatClampNeg)) + x7).toNatClampNeg) (u.2 6 ((((8 : Int32) * (u.2 17 x1.toNatClampNeg)) + x7) + (1 : Int32)).toNatClampNeg)).bind fun v2 => if v2 = 0 then (fm_isOn_77 u n x1 x2 x5 (0 : Int32) (x7 + (1 : Int32))) else fm_isOn_77 u n x1 x2 x5 (1 : Int32) (x7 + (1 : Int32))) := rfl
def fm_again_6 (u : g_S) : Nat → Int32 → Int32 → Int32 → Int32 → Int32 → Option (Int32)
  | 0, _, _, _, _, _ => none
  | n + 1, x1, x2, x3, x4, x5 => if (u.1 1) ≤ x5 then (if x4 < 0 then (some (-1 : Int32)) else ck x4 120 <| ck x2 8 <| if 0 < (lg_cmp ((Int32.toInt64 x3) - (Int32.toInt64 (u.2 11 x4.toNatClampNeg))) (Int32.toInt64 (u.2 1 x2.toNatClampNeg))) then (some (-1 : Int32)) else some x4) else ck x5 120 <| if ¬ (u.2 7 x5.toNatClampNeg) = x1 then (fm_again_6 u n x1 x2 x3 x4 (x5 + (1 : Int32))) else (fm_isOpen u x5).bind fun v1 => if v1 = 0 then (fm_again_6 u n x1 x2 x3 x4 (x5 + (1 : Int32))) else (fm_isHoax u x5).bind fun v2 => if ¬ v2 = 0 then (fm_again_6 u n x1 x2 x3 x4 (x5 + (1 : Int32))) else fm_again_6 u n x1 x2 x3 x5 (x5 + (1 : Int32))
def fm_again (u : g_S) (p1 : Int32) (p2 : Int32) (p3 : Int32) : Option (Int32) := fm_again_6 u 200 p1 p2 p3 (-1 : Int32) (0 : Int32)
theorem fm_again_6_s (u : g_S) (n : Nat) (x1 : Int32) (x2 : Int32) (x3 : Int32) (x4 : Int32) (x5 : Int32) : fm_again_6 u (n + 1) x1 x2 x3 x4 x5 = (if (u.1 1) ≤ x5 then (if x4 < 0 then (some (-1 : Int32)) else ck x4 120 <| ck x2 8 <| if 0 < (lg_cmp ((Int32.toInt64 x3) - (Int32.toInt64 (u.2 11 x4.toNatClampNeg))) (Int32.toInt64 (u.2 1 x2.toNatClampNeg))) then (some (-1 : Int32)) else some x4) else ck x5 120 <| if ¬ (u.2 7 x5.toNatClampNeg) = x1 then (fm_again_6 u n x1 x2 x3 x4 (x5 + (1 : Int32))) else (fm_isOpen u x5).bind fun v1 => if v1 = 0 then (fm_again_6 u n x1 x2 x3 x4 (x5 + (1 : Int32))) else (fm_isHoax u x5).bind fun v2 => if ¬ v2 = 0 then (fm_again_6 u n x1 x2 x3 x4 (x5 + (1 : Int32))) else fm_again_6 u n x1 x2 x3 x5 (x5 + (1 : Int32))) := rfl
def fm_onStretch_3 (u : g_S) : Nat → Int32 → Int32 → Int32 → Int32 → Option (Int32)
  | 0, _, _, _, _ => none
  | n + 1, x1, x2, x3, x4 => if (u.1 2) ≤ x4 then (some (-1 : Int32)) else ck x4 60 <| if ¬ (u.2 16 x4.toNatClampNeg) = 0 then (if (0 : Int32) = 0 then (fm_onStretch_3 u n x1 x2 x3 (x4 + (1 : Int32))) else (fm_isOn u x4 x2 x3).bind fun v1 => if v1 = 0 then (fm_onStretch_3 u n x1 x2 x3 (x4 + (1 : Int32))) else (fm_firstOf u x4).bind fun v2 => some v2) else ck x4 60 <| if (u.2 17 x4.toNatClampNeg) < 0 then (if (0 : Int32) = 0 then (fm_onStretch_3 u n x1 x2 x3 (x4 + (1 : Int32))) else (fm_isOn u x4 x2 x3).bind fun v3 => if v3 = 0 then (fm_onStretch_3 u n x1 x2 x3 (x4 + (1 : Int32))) else (fm_firstOf u x4).bind fun v4 => some v4) else (fm_firstOf u x4).bind fun v5 => ck v5 120 <| if ¬ (u.2 8 v5.toNatClampNeg) = x1 then (if (0 : Int32) = 0 then (fm_onStretch_3 u n x1 x2 x3 (x4 + (1 : Int32))) else (fm_isOn u x4 x2 x3).bind fun v6 => if v6 = 0 then (fm_onStretch_3 u n x1 x2 x3 (x4 + (1 : Int32))) else (fm_firstOf u x4).bind fun v7 => some v7) else if (1 : Int32) = 0 then (fm_onStretch_3 u n x1 x2 x3 (x4 + (1 : Int32))) else (fm_isOn u x4 x2 x3).bind fun v8 => if v8 = 0 then (fm_onStretch_3 u n x1 x2 x3 (x4 + (1 : Int32))) else (fm_firstOf u x4).bind fun v9 => some v9
def fm_onStretch (u : g_S) (p1 : Int32) (p2 : Int32) (p3 : Int32) : Option (Int32) := fm_onStretch_3 u 200 p1 p2 p3 (0 : Int32)
theorem fm_onStretch_3_s (u : g_S) (n : Nat) (x1 : Int32) (x2 : Int32) (x3 : Int32) (x4 : Int32) : fm_onStretch_3 u (n + 1) x1 x2 x3 x4 = (if (u.1 2) ≤ x4 then (some (-1 : Int32)) else ck x4 60 <| if ¬ (u.2 16 x4.toNatClampNeg) = 0 then (if (0 : Int32) = 0 then (fm_onStretch_3 u n x1 x2 x3 (x4 + (1 : Int32))) else (fm_isOn u x4 x2 x3).bind fun v1 => if v1 = 0 then (fm_onStretch_3 u n x1 x2 x3 (x4 + (1 : Int32))) else (fm_firstOf u x4).bind fun v2 => some v2) else ck x4 60 <| if (u.2 17 x4.toNatClampNeg) < 0 then (if (0 : Int32) = 0 then (fm_onStretch_3 u n x1 x2 x3 (x4 + (1 : Int32))) else (fm_isOn u x4 x2 x3).bind fun v3 => if v3 = 0 then (fm_onStretch_3 u n x1 x2 x3 (x4 + (1 : Int32))) else (fm_firstOf u x4).bind fun v4 => some v4) else (fm_firstOf u x4).bind fun v5 => ck v5 120 <| if ¬ (u.2 8 v5.toNatClampNeg) = x1 then (if (0 : Int32) = 0 then (fm_onStretch_3 u n x1 x2 x3 (x4 + (1 : Int32))) else (fm_isOn u x4 x2 x3).bind fun v6 => if v6 = 0 then (fm_onStretch_3 u n x1 x2 x3 (x4 + (1 : Int32))) else (fm_firstOf u x4).bind fun v7 => some v7) else if (1 : Int32) = 0 then (fm_onStretch_3 u n x1 x2 x3 (x4 + (1 : Int32))) else (fm_isOn u x4 x2 x3).bind fun v8 => if v8 = 0 then (fm_onStretch_3 u n x1 x2 x3 (x4 + (1 : Int32))) else (fm_firstOf u x4).bind fun v9 => some v9) := rfl
def fm_isBetter_61 (u : g_S) (x1 : Int32) (x2 : Int32) (x3 : Int32) (x5 : Int32) : Option (Int32) := ck x1 120 <| (fm_sum u ((u.2 10 x1.toNatClampNeg) &&& x5) x3).bind fun v1 => ck x2 120 <| (fm_sum u ((u.2 10 x2.toNatClampNeg) ||| x5) x3).bind fun v2 => ck x2 120 <| (fm_sum u ((u.2 10 x2.toNatClampNeg) &&& x5) x3).bind fun v3 => ck x1 120 <| (fm_sum u ((u.2 10 x1.toNatClampNeg) ||| x5) x3).bind fun v4 => if (v1 * v2) ≤ (v3 * v4) then (some (0 : Int32)) else some (1 : Int32)
def fm_isBetter (u : g_S) (p1 : Int32) (p2 : Int32) (p3 : Int32) (p4 : Int32) (p5 : Int32) : Option (Int32) := if 0 ≤ p2 then (if p4 < 0 then (fm_isBetter_61 u p1 p2 p3 p5) else ck p1 120 <| if (u.2 9 p1.toNatClampNeg) < 0 then (fm_isBetter_61 u p1 p2 p3 p5) else ck p2 120 <| if (u.2 9 p2.toNatClampNeg) < 0 then (fm_isBetter_61 u p1 p2 p3 p5) else ck p1 120 <| (fm_squareOf (u.2 9 p1.toNatClampNeg) p4).bind fun v5 => ck p2 120 <| (fm_squareOf (u.2 9 p2.toNatClampNeg) p4).bind fun v6 => if 0 ≤ (lg_cmp v5 v6) then (some (0 : Int32)) else some (1 : Int32)) else some (1 : Int32)
def fm_agreeing_6 (u : g_S) : Nat → Int32 → Int32 → Int32 → Int32 → Int32 → Int32 → Int32 → Option (Int32)
  | 0, _, _, _, _, _, _, _ => none
  | n + 1, x1, x2, x3, x4, x5, x6, x7 => if (u.1 1) ≤ x7 then (some x6) else ck x7 120 <| if ¬ (u.2 8 x7.toNatClampNeg) = x2 then (if (0 : Int32) = 0 then (fm_agreeing_6 u n x1 x2 x3 x4 x5 x6 (x7 + (1 : Int32))) else if ¬ x1 = (2 : Int32) then ((fm_isBetter u x7 x6 x2 x3 x4).bind fun v1 => if v1 = 0 then (fm_agreeing_6 u n x1 x2 x3 x4 x5 x6 (x7 + (1 : Int32))) else fm_agreeing_6 u n x1 x2 x3 x4 x5 x7 (x7 + (1 : Int32))) else (fm_isBetter u x7 x6 x2 (-1 : Int32) x4).bind fun v2 => if v2 = 0 then (fm_agreeing_6 u n x1 x2 x3 x4 x5 x6 (x7 + (1 : Int32))) else fm_agreeing_6 u n x1 x2 x3 x4 x5 x7 (x7 + (1 : Int32))) else (fm_isOpen u x7).bind fun v3 => if v3 = 0 then (if (0 : Int32) = 0 then (fm_agreeing_6 u n x1 x2 x3 x4 x5 x6 (x7 + (1 : Int32))) else if ¬ x1 = (2 : Int32) then ((fm_isBetter u x7 x6 x2 x3 x4).bind fun v4 => if v4 = 0 then (fm_agreeing_6 u n x1 x2 x3 x4 x5 x6 (x7 + (1 : Int32))) else fm_agreeing_6 u n x1 x2 x3 x4 x5 x7 (x7 + (1 : Int32))) else (fm_isBetter u x7 x6 x2 (-1 : Int32) x4).bind fun v5 => if v5 = 0 then (fm_agreeing_6 u n x1 x2 x3 x4 x5 x6 (x7 + (1 : Int32))) else fm_agreeing_6 u n x1 x2 x3 x4 x5 x7 (x7 + (1 : Int32))) else (fm_isHoax u x7).bind fun v6 => if ¬ v6 = 0 then (if (0 : Int32) = 0 then (fm_agreeing_6 u n x1 x2 x3 x4 x5 x6 (x7 + (1 : Int32))) else if ¬ x1 = (2 : Int32) then ((fm_isBetter u x7 x6 x2 x3 x4).bind fun v7 => if v7 = 0 then (fm_agreeing_6 u n x1 x2 x3 x4 x5 x6 (x7 + (1 : Int32))) else fm_agreeing_6 u n x1 x2 x3 x4 x5 x7 (x7 + (1 : Int32))) else (fm_isBetter u x7 x6 x2 (-1 : Int32) x4).bind fun v8 => if v8 = 0 then (fm_agreeing_6 u n x1 x2 x3 x4 x5 x6 (x7 + (1 : Int32))) else fm_agreeing_6 u n x1 x2 x3 x4 x5 x7 (x7 + (1 : Int32))) else (fm_meets u x7 x2 x3 x4 x5).bind fun v9 => if ¬ v9 = x1 then (if (0 : Int32) = 0 then (fm_agreeing_6 u n x1 x2 x3 x4 x5 x6 (x7 + (1 : Int32))) else if ¬ x1 = (2 : Int32) then ((fm_isBetter u x7 x6 x2 x3 x4).bind fun v10 => if v10 = 0 then (fm_agreeing_6 u n x1 x2 x3 x4 x5 x6 (x7 + (1 : Int32))) else fm_agreeing_6 u n x1 x2 x3 x4 x5 x7 (x7 + (1 : Int32))) else (fm_isBetter u x7 x6 x2 (-1 : Int32) x4).bind fun v11 => if v11 = 0 then (fm_agreeing_6 u n x1 x2 x3 x4 x5 x6 (x7 + (1 : Int32))) else fm_agreeing_6 u n x1 x2 x3 x4 x5 x7 (x7 + (1 : Int32))) else if (1 : Int32) = 0 then (fm_agreeing_6 u n x1 x2 x3 x4 x5 x6 (x7 + (1 : Int32))) else if ¬ x1 = (2 : Int32) then ((fm_isBetter u x7 x6 x2 x3 x4).bind fun v12 => if v12 = 0 then (fm_agreeing_6 u n x1 x2 x3 x4 x5 x6 (x7 + (1 : Int32))) else fm_agreeing_6 u n x1 x2 x3 x4 x5 x7 (x7 + (1 : Int32))) else (fm_isBetter u x7 x6 x2 (-1 : Int32) x4).bind fun v13 => if v13 = 0 then (fm_agreeing_6 u n x1 x2 x3 x4 x5 x6 (x7 + (1 : Int32))) else fm_agreeing_6 u n x1 x2 x3 x4 x5 x7 (x7 + (1 : Int32))
def fm_agreeing (u : g_S) (p1 : Int32) (p2 : Int32) (p3 : Int32) (p4 : Int32) (p5 : Int32) : Option (Int32) := fm_agreeing_6 u 200 p1 p2 p3 p4 p5 (-1 : Int32) (0 : Int32)
theorem fm_agreeing_6_s (u : g_S) (n : Nat) (x1 : Int32) (x2 : Int32) (x3 : Int32) (x4 : Int32) (x5 : Int32) (x6 : Int32) (x7 : Int32) : fm_agreeing_6 u (n + 1) x1 x2 x3 x4 x5 x6 x7 = (if (u.1 1) ≤ x7 then (some x6) else ck x7 120 <| if ¬ (u.2 8 x7.toNatClampNeg) = x2 then (if (0 : Int32) = 0 then (fm_agreeing_6 u n x1 x2 x3 x4 x5 x6 (x7 + (1 : Int32))) else if ¬ x1 = (2 : Int32) then ((fm_isBetter u x7 x6 x2 x3 x4).bind fun v1 => if v1 = 0 then (fm_agreeing_6 u n x1 x2 x3 x4 x5 x6 (x7 + (1 : Int32))) else fm_agreeing_6 u n x1 x2 x3 x4 x5 x7 (x7 + (1 : Int32))) else (fm_isBetter u x7 x6 x2 (-1 : Int32) x4).bind fun v2 => if v2 = 0 then (fm_agreeing_6 u n x1 x2 x3 x4 x5 x6 (x7 + (1 : Int32))) else fm_agreeing_6 u n x1 x2 x3 x4 x5 x7 (x7 + (1 : Int32))) else (fm_isOpen u x7).bind fun v3 => if v3 = 0 then (if (0 : Int32) = 0 then (fm_agreeing_6 u n x1 x2 x3 x4 x5 x6 (x7 + (1 : Int32))) else if ¬ x1 = (2 : Int32) then ((fm_isBetter u x7 x6 x2 x3 x4).bind fun v4 => if v4 = 0 then (fm_agreeing_6 u n x1 x2 x3 x4 x5 x6 (x7 + (1 : Int32))) else fm_agreeing_6 u n x1 x2 x3 x4 x5 x7 (x7 + (1 : Int32))) else (fm_isBetter u x7 x6 x2 (-1 : Int32) x4).bind fun v5 => if v5 = 0 then (fm_agreeing_6 u n x1 x2 x3 x4 x5 x6 (x7 + (1 : Int32))) else fm_agreeing_6 u n x1 x2 x3 x4 x5 x7 (x7 + (1 : Int32))) else (fm_isHoax u x7).bind fun v6 => if ¬ v6 = 0 then (if (0 : Int32) = 0 then (fm_agreeing_6 u n x1 x2 x3 x4 x5 x6 (x7 + (1 : Int32))) else if ¬ x1 = (2 : Int32) then ((fm_isBetter u x7 x6 x2 x3 x4).bind fun v7 => if v7 = 0 then (fm_agreeing_6 u n x1 x2 x3 x4 x5 x6 (x7 + (1 : Int32))) else fm_agreeing_6 u n x1 x2 x3 x4 x5 x7 (x7 + (1 : Int32))) else (fm_isBetter u x7 x6 x2 (-1 : Int32) x4).bind fun v8 => if v8 = 0 then (fm_agreeing_6 u n x1 x2 x3 x4 x5 x6 (x7 + (1 : Int32))) else fm_agreeing_6 u n x1 x2 x3 x4 x5 x7 (x7 + (1 : Int32))) else (fm_meets u x7 x2 x3 x4 x5).bind fun v9 => if ¬ v9 = x1 then (if (0 : Int32) = 0 then (fm_agreeing_6 u n x1 x2 x3 x4 x5 x6 (x7 + (1 : Int32))) else if ¬ x1 = (2 : Int32) then ((fm_isBetter u x7 x6 x2 x3 x4).bind fun v10 => if v10 = 0 then (fm_agreeing_6 u n x1 x2 x3 x4 x5 x6 (x7 + (1 : Int32))) else fm_agreeing_6 u n x1 x2 x3 x4 x5 x7 (x7 + (1 : Int32))) else (fm_isBetter u x7 x6 x2 (-1 : Int32) x4).bind fun v11 => if v11 = 0 then (fm_agreeing_6 u n x1 x2 x3 x4 x5 x6 (x7 + (1 : Int32))) else fm_agreeing_6 u n x1 x2 x3 x4 x5 x7 (x7 + (1 : Int32))) else if (1 : Int32) = 0 then (fm_agreeing_6 u n x1 x2 x3 x4 x5 x6 (x7 + (1 : Int32))) else if ¬ x1 = (2 : Int32) then ((fm_isBetter u x7 x6 x2 x3 x4).bind fun v12 => if v12 = 0 then (fm_agreeing_6 u n x1 x2 x3 x4 x5 x6 (x7 + (1 : Int32))) else fm_agreeing_6 u n x1 x2 x3 x4 x5 x7 (x7 + (1 : Int32))) else (fm_isBetter u x7 x6 x2 (-1 : Int32) x4).bind fun v13 => if v13 = 0 then (fm_agreeing_6 u n x1 x2 x3 x4 x5 x6 (x7 + (1 : Int32))) else fm_agreeing_6 u n x1 x2 x3 x4 x5 x7 (x7 + (1 : Int32))) := rfl
def fm_reason (u : g_S) (p1 : Int32) (p2 : Int32) (p3 : Int32) (p4 : Int32) (p5 : Int32) (p6 : Int32) : Option (Int32 × g_S) := gl (g_sI u 3 (1 : Int32)) fun u1 => (fm_again u1 p1 p2 p6).bind fun v2 => if v2 < 0 then (gl (g_sI u1 3 (2 : Int32)) fun u3 => (fm_onStretch u3 p2 p3 p5).bind fun v4 => if v4 < 0 then (gl (g_sI u3 3 (3 : Int32)) fun u5 => (fm_agreeing u5 (1 : Int32) p2 p3 p4 p6).bind fun v6 => if v6 < 0 then (gl (g_sI u5 3 (4 : Int32)) fun u7 => (fm_agreeing u7 (2 : Int32) p2 p3 p4 p6).bind fun v8 => if v8 < 0 then (gl (g_sI u7 3 (0 : Int32)) fun u9 => some (v8, u9)) else gl (g_sI u7 3 (4 : Int32)) fun u10 => some (v8, u10)) else some (v6, u5)) else some (v4, u3)) else some (v2, u1)
def fm_isRange (u : g_S) (p1 : Int32) (p2 : Int32) (p3 : Int32) : Option (Int32) := (fm_in p1 (0 : Int32) (999 : Int32)).bind fun v1 => if v1 = 0 then (some (0 : Int32)) else (fm_in p2 (-1 : Int32) (99999999 : Int32)).bind fun v2 => if v2 = 0 then (some (0 : Int32)) else if ¬ (u.1 1) = 0 then (ck ((u.1 1) - (1 : Int32)) 120 <| if p3 < (u.2 11 ((u.1 1) - (1 : Int32)).toNatClampNeg) then (some (0 : Int32)) else some (1 : Int32)) else if p3 < (0 : Int32) then (some (0 : Int32)) else some (1 : Int32)
def fm_isKnown (p0 : Int32) (p1 : Int32) : Option (Int32) := (fm_isKind p0).bind fun v1 => if v1 = 0 then (some (0 : Int32)) else (fm_in p1 (-1 : Int32) (7 : Int32)).bind fun v2 => if v2 = 0 then (some (0 : Int32)) else some (1 : Int32)
def fm_newEvent (u : g_S)  : Option (Int32 × g_S) := ck (u.1 2) 60 <| gl (g_sA u 16 (u.1 2) (0 : Int32)) fun u1 => ck (u1.1 2) 60 <| gl (g_sA u1 17 (u1.1 2) (-1 : Int32)) fun u2 => gl (g_sI u2 2 ((u2.1 2) + (1 : Int32))) fun u3 => some (((u3.1 2) - (1 : Int32)), u3)
def fm_call_199 (u : g_S) (x8 : Int32) (y1 : Int32) (y2 : Int32) : Option (Int32 × g_S) := ck y1 120 <| gl (g_sA u 12 y1 y2) fun u15 => gl (g_sI u15 1 ((u15.1 1) + (1 : Int32))) fun u16 => some (x8, u16)
def fm_call_90 (u : g_S) (x1 : Int32) (x2 : Int32) (x3 : Int32) (x4 : Int32) (x6 : Int32) (x7 : Int32) (y1 : Int32) (y2 : Int32) (y3 : Int32) : Option (Int32 × g_S) := (fm_throwing u y1 y2 y3).bind fun v5 => if v5.1 = 0 then (gl (v5.2.1 1) fun w6 => ck w6 120 <| gl (g_sA v5.2 7 w6 x1) fun u7 => ck w6 120 <| gl (g_sA u7 8 w6 x2) fun u8 => ck w6 120 <| gl (g_sA u8 9 w6 x3) fun u9 => ck w6 120 <| gl (g_sA u9 10 w6 x4) fun u10 => ck w6 120 <| gl (g_sA u10 11 w6 x6) fun u11 => ck w6 120 <| gl (g_sA u11 14 w6 (0 : Int32)) fun u12 => ck w6 120 <| gl (g_sA u12 13 w6 x7) fun u13 => ck w6 120 <| gl (g_sA u13 15 w6 (u13.1 3)) fun u14 => if 0 ≤ x7 then (ck x7 120 <| fm_call_199 u14 w6 w6 (u14.2 12 x7.toNatClampNeg)) else (fm_newEvent u14 ).bind fun v17 => fm_call_199 v17.2 w6 w6 v17.1) else some ((0 : Int32), v5.2)
def fm_call_45 (u : g_S) (x1 : Int32) (x2 : Int32) (x3 : Int32) (x4 : Int32) (x5 : Int32) (x6 : Int32) (y1 : Int32) (y2 : Int32) (y3 : Int32) : Option (Int32 × g_S) := (fm_throwing u y1 y2 y3).bind fun v3 => if v3.1 = 0 then ((fm_reason v3.2 x1 x2 x3 x4 x5 x6).bind fun v4 => if 0 ≤ v4.1 then (fm_call_90 v4.2 x1 x2 x3 x4 x6 v4.1 (0 : Int32) (0 : Int32) (0 : Int32)) else if ¬ (v4.2.1 2) = (60 : Int32) then (fm_call_90 v4.2 x1 x2 x3 x4 x6 v4.1 (0 : Int32) (0 : Int32) (0 : Int32)) else fm_call_90 v4.2 x1 x2 x3 x4 x6 v4.1 (0 : Int32) (0 : Int32) (1 : Int32)) else some ((0 : Int32), v3.2)
def fm_call_31 (u : g_S) (x1 : Int32) (x2 : Int32) (x3 : Int32) (x4 : Int32) (x5 : Int32) (x6 : Int32) (y1 : Int32) (y2 : Int32) : Option (Int32 × g_S) := if ¬ (u.1 1) = (120 : Int32) then (fm_call_45 u x1 x2 x3 x4 x5 x6 y1 y2 (0 : Int32)) else fm_call_45 u x1 x2 x3 x4 x5 x6 y1 y2 (1 : Int32)
def fm_call_15 (u : g_S) (x1 : Int32) (x2 : Int32) (x3 : Int32) (x4 : Int32) (x5 : Int32) (x6 : Int32) (y1 : Int32) : Option (Int32 × g_S) := (fm_isRange u x1 x3 x6).bind fun v2 => if ¬ v2 = 0 then (fm_call_31 u x1 x2 x3 x4 x5 x6 y1 (0 : Int32)) else fm_call_31 u x1 x2 x3 x4 x5 x6 y1 (1 : Int32)
def fm_call (u : g_S) (p1 : Int32) (p2 : Int32) (p3 : Int32) (p4 : Int32) (p5 : Int32) (p6 : Int32) : Option (Int32 × g_S) := (fm_isKnown p2 p5).bind fun v1 => if ¬ v1 = 0 then (fm_call_15 u p1 p2 p3 p4 p5 p6 (0 : Int32)) else fm_call_15 u p1 p2 p3 p4 p5 p6 (1 : Int32)
def fm_reasonFor_31 (u : g_S) (x1 : Int32) (x2 : Int32) (x3 : Int32) (x4 : Int32) (x5 : Int32) (x6 : Int32) (y1 : Int32) (y2 : Int32) : Option (Int32 × g_S) := (fm_throwing u y1 y2 (0 : Int32)).bind fun v3 => if v3.1 = 0 then ((fm_reason v3.2 x1 x2 x3 x4 x5 x6).bind fun v4 => some (v4.1, v4.2)) else some ((0 : Int32), v3.2)
def fm_reasonFor_15 (u : g_S) (x1 : Int32) (x2 : Int32) (x3 : Int32) (x4 : Int32) (x5 : Int32) (x6 : Int32) (y1 : Int32) : Option (Int32 × g_S) := (fm_isRange u x1 x3 x6).bind fun v2 => if ¬ v2 = 0 then (fm_reasonFor_31 u x1 x2 x3 x4 x5 x6 y1 (0 : Int32)) else fm_reasonFor_31 u x1 x2 x3 x4 x5 x6 y1 (1 : Int32)
def fm_reasonFor (u : g_S) (p1 : Int32) (p2 : Int32) (p3 : Int32) (p4 : Int32) (p5 : Int32) (p6 : Int32) : Option (Int32 × g_S) := (fm_isKnown p2 p5).bind fun v1 => if ¬ v1 = 0 then (fm_reasonFor_15 u p1 p2 p3 p4 p5 p6 (0 : Int32)) else fm_reasonFor_15 u p1 p2 p3 p4 p5 p6 (1 : Int32)
def fm_mark_29 (u : g_S) (x1 : Int32) (x2 : Int32) (y1 : Int32) (y2 : Int32) : Option (g_S) := (fm_throwing u y1 y2 (0 : Int32)).bind fun v3 => if v3.1 = 0 then (ck x1 120 <| gl (g_sA v3.2 14 x1 x2) fun u4 => some u4) else some v3.2
def fm_mark_14 (u : g_S) (x1 : Int32) (x2 : Int32) (y1 : Int32) : Option (g_S) := (fm_in x2 (0 : Int32) (7 : Int32)).bind fun v2 => if ¬ v2 = 0 then (fm_mark_29 u x1 x2 y1 (0 : Int32)) else fm_mark_29 u x1 x2 y1 (1 : Int32)
def fm_mark (u : g_S) (p1 : Int32) (p2 : Int32) : Option (g_S) := (fm_isCall u p1).bind fun v1 => if ¬ v1 = 0 then (fm_mark_14 u p1 p2 (0 : Int32)) else fm_mark_14 u p1 p2 (1 : Int32)
def fm_split_124 (k113 : g_S → Int32 → Int32 → Int32 → Option (Int32 × g_S)) : Nat → g_S → Int32 → Int32 → Int32 → Int32 → Option (Int32 × g_S)
  | 0, _, _, _, _, _ => none
  | n + 1, u, x4, x5, x6, x7 => if (u.1 1) ≤ x7 then (k113 u x4 x5 x6) else ck x7 120 <| if ¬ (u.2 12 x7.toNatClampNeg) = x5 then (fm_split_124 k113 n u x4 x5 x6 (x7 + (1 : Int32))) else ck x7 120 <| if (u.2 13 x7.toNatClampNeg) < 0 then (fm_split_124 k113 n u x4 x5 x6 (x7 + (1 : Int32))) else ck x7 120 <| ck (u.2 13 x7.toNatClampNeg) 120 <| if ¬ (u.2 12 (u.2 13 x7.toNatClampNeg).toNatClampNeg) = x4 then (fm_split_124 k113 n u x4 x5 x6 (x7 + (1 : Int32))) else ck x7 120 <| gl (g_sA u 12 x7 x4) fun u8 => fm_split_124 k113 n u8 x4 x5 (1 : Int32) (x7 + (1 : Int32))
def fm_split_113 : Nat → g_S → Int32 → Int32 → Int32 → Option (Int32 × g_S)
  | 0, _, _, _, _ => none
  | n + 1, u, x4, x5, x6 => if x6 = 0 then (some (x4, u)) else fm_split_124 (fm_split_113 n) 200 u x4 x5 (0 : Int32) (0 : Int32)
def fm_split_66 (u : g_S) (x1 : Int32) (y1 : Int32) (y2 : Int32) (y3 : Int32) : Option (Int32 × g_S) := (fm_throwing u y1 y2 y3).bind fun v2 => if v2.1 = 0 then ((fm_newEvent v2.2 ).bind fun v3 => ck x1 120 <| gl (g_sA v3.2 13 x1 (-1 : Int32)) fun u4 => ck x1 120 <| gl (g_sA u4 15 x1 (0 : Int32)) fun u5 => ck x1 120 <| gl (u5.2 12 x1.toNatClampNeg) fun w6 => ck x1 120 <| gl (g_sA u5 12 x1 v3.1) fun u7 => fm_split_113 200 u7 v3.1 w6 (1 : Int32)) else some ((0 : Int32), v2.2)
def fm_split_52 (u : g_S) (x1 : Int32) (y1 : Int32) (y2 : Int32) : Option (Int32 × g_S) := if ¬ (u.1 2) = (60 : Int32) then (fm_split_66 u x1 y1 y2 (0 : Int32)) else fm_split_66 u x1 y1 y2 (1 : Int32)
def fm_split_32 (u : g_S) (x1 : Int32) (x2 : Int32) (y0 : Int32) : Option (Int32 × g_S) := if ¬ x2 = 0 then (if ¬ y0 = 0 then (fm_split_52 u x1 (0 : Int32) (0 : Int32)) else fm_split_52 u x1 (0 : Int32) (1 : Int32)) else if ¬ y0 = 0 then (fm_split_52 u x1 (1 : Int32) (0 : Int32)) else fm_split_52 u x1 (1 : Int32) (1 : Int32)
def fm_split (u : g_S) (p1 : Int32) : Option (Int32 × g_S) := (fm_isCall u p1).bind fun v1 => if v1 = 0 then (fm_split_32 u p1 v1 (0 : Int32)) else ck p1 120 <| if (u.2 13 p1.toNatClampNeg) < 0 then (fm_split_32 u p1 v1 (0 : Int32)) else (fm_isOpen u p1).bind fun v9 => if v9 = 0 then (fm_split_32 u p1 v1 (0 : Int32)) else fm_split_32 u p1 v1 (1 : Int32)
theorem fm_split_113_s (u : g_S) (n : Nat) (x4 : Int32) (x5 : Int32) (x6 : Int32) : fm_split_113 (n + 1) u x4 x5 x6 = (if x6 = 0 then (some (x4, u)) else fm_split_124 (fm_split_113 n) 200 u x4 x5 (0 : Int32) (0 : Int32)) := rfl
theorem fm_split_124_s (k113 : g_S → Int32 → Int32 → Int32 → Option (Int32 × g_S)) (u : g_S) (n : Nat) (x4 : Int32) (x5 : Int32) (x6 : Int32) (x7 : Int32) : fm_split_124 k113 (n + 1) u x4 x5 x6 x7 = (if (u.1 1) ≤ x7 then (k113 u x4 x5 x6) else ck x7 120 <| if ¬ (u.2 12 x7.toNatClampNeg) = x5 then (fm_split_124 k113 n u x4 x5 x6 (x7 + (1 : Int32))) else ck x7 120 <| if (u.2 13 x7.toNatClampNeg) < 0 then (fm_split_124 k113 n u x4 x5 x6 (x7 + (1 : Int32))) else ck x7 120 <| ck (u.2 13 x7.toNatClampNeg) 120 <| if ¬ (u.2 12 (u.2 13 x7.toNatClampNeg).toNatClampNeg) = x4 then (fm_split_124 k113 n u x4 x5 x6 (x7 + (1 : Int32))) else ck x7 120 <| gl (g_sA u 12 x7 x4) fun u8 => fm_split_124 k113 n u8 x4 x5 (1 : Int32) (x7 + (1 : Int32))) := rfl
def fm_size_4 (u : g_S) : Nat → Int32 → Int32 → Int32 → Option (Int32)
  | 0, _, _, _ => none
  | n + 1, x1, x2, x3 => if (u.1 1) ≤ x3 then (some x2) else ck x3 120 <| if ¬ (u.2 12 x3.toNatClampNeg) = x1 then (gl (x2 + (0 : Int32)) fun w1 => fm_size_4 u n x1 w1 (x3 + (1 : Int32))) else gl (x2 + (1 : Int32)) fun w2 => fm_size_4 u n x1 w2 (x3 + (1 : Int32))
def fm_size (u : g_S) (p1 : Int32) : Option (Int32) := fm_size_4 u 200 p1 (0 : Int32) (0 : Int32)
theorem fm_size_4_s (u : g_S) (n : Nat) (x1 : Int32) (x2 : Int32) (x3 : Int32) : fm_size_4 u (n + 1) x1 x2 x3 = (if (u.1 1) ≤ x3 then (some x2) else ck x3 120 <| if ¬ (u.2 12 x3.toNatClampNeg) = x1 then (gl (x2 + (0 : Int32)) fun w1 => fm_size_4 u n x1 w1 (x3 + (1 : Int32))) else gl (x2 + (1 : Int32)) fun w2 => fm_size_4 u n x1 w2 (x3 + (1 : Int32))) := rfl
def fm_merge_115 : Nat → g_S → Int32 → Int32 → Int32 → Option (Int32 × g_S)
  | 0, _, _, _, _ => none
  | n + 1, u, x1, x2, x6 => if (u.1 1) ≤ x6 then (ck x1 60 <| gl (g_sA u 16 x1 (3 : Int32)) fun u6 => ck x1 60 <| gl (g_sA u6 17 x1 (-1 : Int32)) fun u7 => ck x2 120 <| (fm_size u7 (u7.2 12 x2.toNatClampNeg)).bind fun v8 => some (v8, u7)) else ck x6 120 <| if ¬ (u.2 12 x6.toNatClampNeg) = x1 then (fm_merge_115 n u x1 x2 (x6 + (1 : Int32))) else ck x2 120 <| ck x6 120 <| gl (g_sA u 12 x6 (u.2 12 x2.toNatClampNeg)) fun u9 => fm_merge_115 n u9 x1 x2 (x6 + (1 : Int32))
def fm_merge_80 (u : g_S) (x1 : Int32) (x2 : Int32) (y1 : Int32) (y2 : Int32) : Option (Int32 × g_S) := (fm_throwing u y1 y2 (0 : Int32)).bind fun v2 => if v2.1 = 0 then ((fm_firstOf v2.2 x1).bind fun v3 => ck v3 120 <| gl (g_sA v2.2 13 v3 x2) fun u4 => ck v3 120 <| gl (g_sA u4 15 v3 (5 : Int32)) fun u5 => fm_merge_115 200 u5 x1 x2 (0 : Int32)) else some ((0 : Int32), v2.2)
def fm_merge_58 (u : g_S) (x1 : Int32) (x2 : Int32) (x3 : Int32) (y0 : Int32) : Option (Int32 × g_S) := if ¬ x3 = 0 then (if ¬ y0 = 0 then (fm_merge_80 u x1 x2 (0 : Int32) (0 : Int32)) else fm_merge_80 u x1 x2 (0 : Int32) (1 : Int32)) else if ¬ y0 = 0 then (fm_merge_80 u x1 x2 (1 : Int32) (0 : Int32)) else fm_merge_80 u x1 x2 (1 : Int32) (1 : Int32)
def fm_merge_21 (u : g_S) (x1 : Int32) (x2 : Int32) (y0 : Int32) : Option (Int32 × g_S) := if y0 = 0 then (fm_merge_58 u x1 x2 y0 (0 : Int32)) else ck x1 60 <| if ¬ (u.2 16 x1.toNatClampNeg) = 0 then (fm_merge_58 u x1 x2 y0 (0 : Int32)) else (fm_isOpen u x2).bind fun v10 => if v10 = 0 then (fm_merge_58 u x1 x2 y0 (0 : Int32)) else ck x2 120 <| if (u.2 12 x2.toNatClampNeg) = x1 then (fm_merge_58 u x1 x2 y0 (0 : Int32)) else fm_merge_58 u x1 x2 y0 (1 : Int32)
def fm_merge (u : g_S) (p1 : Int32) (p2 : Int32) : Option (Int32 × g_S) := (fm_isEvent u p1).bind fun v1 => if v1 = 0 then (fm_merge_21 u p1 p2 (0 : Int32)) else (fm_isCall u p2).bind fun v11 => if v11 = 0 then (fm_merge_21 u p1 p2 (0 : Int32)) else fm_merge_21 u p1 p2 (1 : Int32)
theorem fm_merge_115_s (u : g_S) (n : Nat) (x1 : Int32) (x2 : Int32) (x6 : Int32) : fm_merge_115 (n + 1) u x1 x2 x6 = (if (u.1 1) ≤ x6 then (ck x1 60 <| gl (g_sA u 16 x1 (3 : Int32)) fun u6 => ck x1 60 <| gl (g_sA u6 17 x1 (-1 : Int32)) fun u7 => ck x2 120 <| (fm_size u7 (u7.2 12 x2.toNatClampNeg)).bind fun v8 => some (v8, u7)) else ck x6 120 <| if ¬ (u.2 12 x6.toNatClampNeg) = x1 then (fm_merge_115 n u x1 x2 (x6 + (1 : Int32))) else ck x2 120 <| ck x6 120 <| gl (g_sA u 12 x6 (u.2 12 x2.toNatClampNeg)) fun u9 => fm_merge_115 n u9 x1 x2 (x6 + (1 : Int32))) := rfl
def fm_watch_113 (u : g_S) (x1 : Int32) (x2 : Int32) (x3 : Int32) (x4 : Int32) (y1 : Int32) (y2 : Int32) (y3 : Int32) : Option (g_S) := (fm_throwing u y1 y2 y3).bind fun v2 => if v2.1 = 0 then (ck x1 60 <| gl (g_sA v2.2 17 x1 x2) fun u3 => ck x1 60 <| gl (g_sA u3 18 x1 x3) fun u4 => ck x1 60 <| gl (g_sA u4 19 x1 x4) fun u5 => some u5) else some v2.2
def fm_watch_94 (u : g_S) (x1 : Int32) (x2 : Int32) (x3 : Int32) (x4 : Int32) (x5 : Int32) (y1 : Int32) (y2 : Int32) : Option (g_S) := if x5 = 0 then (fm_watch_113 u x1 x2 x3 x4 y1 y2 (0 : Int32)) else ck x1 60 <| if (u.2 16 x1.toNatClampNeg) = 0 then (fm_watch_113 u x1 x2 x3 x4 y1 y2 (0 : Int32)) else fm_watch_113 u x1 x2 x3 x4 y1 y2 (1 : Int32)
def fm_watch_71 (u : g_S) (x1 : Int32) (x2 : Int32) (x3 : Int32) (x4 : Int32) (x5 : Int32) (y0 : Int32) : Option (g_S) := if ¬ x5 = 0 then (if ¬ y0 = 0 then (fm_watch_94 u x1 x2 x3 x4 x5 (0 : Int32) (0 : Int32)) else fm_watch_94 u x1 x2 x3 x4 x5 (0 : Int32) (1 : Int32)) else if ¬ y0 = 0 then (fm_watch_94 u x1 x2 x3 x4 x5 (1 : Int32) (0 : Int32)) else fm_watch_94 u x1 x2 x3 x4 x5 (1 : Int32) (1 : Int32)
def fm_watch_20 (u : g_S) (x1 : Int32) (x2 : Int32) (x3 : Int32) (x4 : Int32) (y0 : Int32) : Option (g_S) := if y0 = 0 then (fm_watch_71 u x1 x2 x3 x4 y0 (0 : Int32)) else ck x2 8 <| (fm_in x3 (0 : Int32) ((u.2 5 x2.toNatClampNeg) - (1 : Int32))).bind fun v6 => if v6 = 0 then (fm_watch_71 u x1 x2 x3 x4 y0 (0 : Int32)) else ck x2 8 <| (fm_in x4 (0 : Int32) ((u.2 5 x2.toNatClampNeg) - (1 : Int32))).bind fun v7 => if v7 = 0 then (fm_watch_71 u x1 x2 x3 x4 y0 (0 : Int32)) else if x3 = x4 then (fm_watch_71 u x1 x2 x3 x4 y0 (0 : Int32)) else fm_watch_71 u x1 x2 x3 x4 y0 (1 : Int32)
def fm_watch (u : g_S) (p1 : Int32) (p2 : Int32) (p3 : Int32) (p4 : Int32) : Option (g_S) := (fm_isEvent u p1).bind fun v1 => if v1 = 0 then (fm_watch_20 u p1 p2 p3 p4 (0 : Int32)) else (fm_isRoad p2).bind fun v8 => if v8 = 0 then (fm_watch_20 u p1 p2 p3 p4 (0 : Int32)) else fm_watch_20 u p1 p2 p3 p4 (1 : Int32)
def fm_state_59 (u : g_S) (x1 : Int32) (x2 : Int32) (y1 : Int32) (y2 : Int32) (y3 : Int32) : Option (g_S) := (fm_throwing u y1 y2 y3).bind fun v3 => if v3.1 = 0 then (ck x1 60 <| gl (g_sA v3.2 16 x1 x2) fun u4 => some u4) else some v3.2
def fm_state_30 (u : g_S) (x1 : Int32) (x2 : Int32) (x3 : Int32) (y1 : Int32) (y2 : Int32) : Option (g_S) := if x3 = 0 then (fm_state_59 u x1 x2 y1 y2 (0 : Int32)) else ck x1 60 <| if (u.2 16 x1.toNatClampNeg) = x2 then (fm_state_59 u x1 x2 y1 y2 (1 : Int32)) else ck x1 60 <| if ¬ (u.2 16 x1.toNatClampNeg) = (3 : Int32) then (fm_state_59 u x1 x2 y1 y2 (0 : Int32)) else fm_state_59 u x1 x2 y1 y2 (1 : Int32)
def fm_state_16 (u : g_S) (x1 : Int32) (x2 : Int32) (x3 : Int32) (y1 : Int32) : Option (g_S) := (fm_in x2 (0 : Int32) (2 : Int32)).bind fun v2 => if ¬ v2 = 0 then (fm_state_30 u x1 x2 x3 y1 (0 : Int32)) else fm_state_30 u x1 x2 x3 y1 (1 : Int32)
def fm_state (u : g_S) (p1 : Int32) (p2 : Int32) : Option (g_S) := (fm_isEvent u p1).bind fun v1 => if ¬ v1 = 0 then (fm_state_16 u p1 p2 v1 (0 : Int32)) else fm_state_16 u p1 p2 v1 (1 : Int32)
def fm_share_101 (u : g_S) (x1 : Int32) (x2 : Int32) (x4 : Int32) (x5 : Int32) (y1 : Int32) (y2 : Int32) : Option (Int32 × g_S) := (fm_throwing u y1 y2 (0 : Int32)).bind fun v2 => if v2.1 = 0 then (ck x1 120 <| ck x2 120 <| (fm_sum v2.2 ((v2.2.2 10 x1.toNatClampNeg) &&& (v2.2.2 10 x2.toNatClampNeg)) x4).bind fun v3 => if x5 = 0 then none else some ((((1000 : Int32) * v3) / x5), v2.2)) else some ((0 : Int32), v2.2)
def fm_share_79 (u : g_S) (x1 : Int32) (x2 : Int32) (x3 : Int32) (x4 : Int32) (y0 : Int32) : Option (Int32 × g_S) := if ¬ x3 = 0 then (if ¬ y0 = 0 then (fm_share_101 u x1 x2 x4 y0 (0 : Int32) (0 : Int32)) else fm_share_101 u x1 x2 x4 y0 (0 : Int32) (1 : Int32)) else if ¬ y0 = 0 then (fm_share_101 u x1 x2 x4 y0 (1 : Int32) (0 : Int32)) else fm_share_101 u x1 x2 x4 y0 (1 : Int32) (1 : Int32)
def fm_share_50 (u : g_S) (x1 : Int32) (x2 : Int32) (x3 : Int32) (y0 : Int32) : Option (Int32 × g_S) := if x3 = 0 then (fm_share_79 u x1 x2 x3 y0 (0 : Int32)) else ck x1 120 <| ck x2 120 <| (fm_sum u ((u.2 10 x1.toNatClampNeg) ||| (u.2 10 x2.toNatClampNeg)) y0).bind fun v4 => fm_share_79 u x1 x2 x3 y0 v4
def fm_share_26 (u : g_S) (x1 : Int32) (x2 : Int32) (y0 : Int32) : Option (Int32 × g_S) := if y0 = 0 then (fm_share_50 u x1 x2 y0 (0 : Int32)) else if x1 ≤ x2 then (ck x2 120 <| fm_share_50 u x1 x2 y0 (u.2 8 x2.toNatClampNeg)) else ck x1 120 <| fm_share_50 u x1 x2 y0 (u.2 8 x1.toNatClampNeg)
def fm_share (u : g_S) (p1 : Int32) (p2 : Int32) : Option (Int32 × g_S) := (fm_isCall u p1).bind fun v1 => if v1 = 0 then (fm_share_26 u p1 p2 (0 : Int32)) else (fm_isCall u p2).bind fun v5 => if v5 = 0 then (fm_share_26 u p1 p2 (0 : Int32)) else if p1 = p2 then (fm_share_26 u p1 p2 (0 : Int32)) else fm_share_26 u p1 p2 (1 : Int32)
def fm_agree_57 (u : g_S) (x1 : Int32) (x2 : Int32) (y0 : Int32) : Option (Int32 × g_S) := gl ((x1 + x2) - y0) fun w3 => ck w3 120 <| ck w3 120 <| ck w3 120 <| ck w3 120 <| (fm_meets u y0 (u.2 8 w3.toNatClampNeg) (u.2 9 w3.toNatClampNeg) (u.2 10 w3.toNatClampNeg) (u.2 11 w3.toNatClampNeg)).bind fun v4 => some (v4, u)
def fm_agree_37 (u : g_S) (x1 : Int32) (x2 : Int32) (y1 : Int32) : Option (Int32 × g_S) := (fm_throwing u y1 (0 : Int32) (0 : Int32)).bind fun v2 => if v2.1 = 0 then (if x2 ≤ x1 then (fm_agree_57 v2.2 x1 x2 x2) else fm_agree_57 v2.2 x1 x2 x1) else some ((0 : Int32), v2.2)
def fm_agree_26 (u : g_S) (x1 : Int32) (x2 : Int32) (y0 : Int32) : Option (Int32 × g_S) := if ¬ y0 = 0 then (fm_agree_37 u x1 x2 (0 : Int32)) else fm_agree_37 u x1 x2 (1 : Int32)
def fm_agree (u : g_S) (p1 : Int32) (p2 : Int32) : Option (Int32 × g_S) := (fm_isCall u p1).bind fun v1 => if v1 = 0 then (fm_agree_26 u p1 p2 (0 : Int32)) else (fm_isCall u p2).bind fun v5 => if v5 = 0 then (fm_agree_26 u p1 p2 (0 : Int32)) else if p1 = p2 then (fm_agree_26 u p1 p2 (0 : Int32)) else fm_agree_26 u p1 p2 (1 : Int32)
def fm_callAt_23 (u : g_S) (x1 : Int32) (x2 : Int32) (y1 : Int32) : Option (Int32 × g_S) := (fm_throwing u y1 (0 : Int32) (0 : Int32)).bind fun v2 => if v2.1 = 0 then (if ¬ x2 = 0 then (if ¬ x2 = (1 : Int32) then (if ¬ x2 = (2 : Int32) then (if ¬ x2 = (3 : Int32) then (ck x1 120 <| some ((v2.2.2 15 x1.toNatClampNeg), v2.2)) else ck x1 120 <| some ((v2.2.2 8 x1.toNatClampNeg), v2.2)) else ck x1 120 <| some ((v2.2.2 14 x1.toNatClampNeg), v2.2)) else ck x1 120 <| some ((v2.2.2 13 x1.toNatClampNeg), v2.2)) else ck x1 120 <| some ((v2.2.2 12 x1.toNatClampNeg), v2.2)) else some ((0 : Int32), v2.2)
def fm_callAt (u : g_S) (p1 : Int32) (p2 : Int32) : Option (Int32 × g_S) := (fm_isCall u p1).bind fun v1 => if v1 = 0 then (fm_callAt_23 u p1 p2 (1 : Int32)) else (fm_in p2 (0 : Int32) (4 : Int32)).bind fun v3 => if ¬ v3 = 0 then (fm_callAt_23 u p1 p2 (0 : Int32)) else fm_callAt_23 u p1 p2 (1 : Int32)
def fm_weightOf_4 (u : g_S) : Nat → Int32 → Int32 → Int32 → Option (Int32)
  | 0, _, _, _ => none
  | n + 1, x1, x2, x3 => if (u.1 1) ≤ x3 then (some x2) else ck x3 120 <| if ¬ (u.2 12 x3.toNatClampNeg) = x1 then (fm_weightOf_4 u n x1 x2 (x3 + (1 : Int32))) else (fm_isHoax u x3).bind fun v1 => if ¬ v1 = 0 then (fm_weightOf_4 u n x1 x2 (x3 + (1 : Int32))) else ck x3 120 <| if ((u.2 14 x3.toNatClampNeg) &&& (1 : Int32)) = 0 then (ck x3 120 <| if (u.2 9 x3.toNatClampNeg) < 0 then (gl (x2 + (((4 : Int32) - (0 : Int32)) + (0 : Int32))) fun w2 => fm_weightOf_4 u n x1 w2 (x3 + (1 : Int32))) else gl (x2 + (((4 : Int32) - (0 : Int32)) + (1 : Int32))) fun w3 => fm_weightOf_4 u n x1 w3 (x3 + (1 : Int32))) else ck x3 120 <| if (u.2 9 x3.toNatClampNeg) < 0 then (gl (x2 + (((4 : Int32) - (2 : Int32)) + (0 : Int32))) fun w4 => fm_weightOf_4 u n x1 w4 (x3 + (1 : Int32))) else gl (x2 + (((4 : Int32) - (2 : Int32)) + (1 : Int32))) fun w5 => fm_weightOf_4 u n x1 w5 (x3 + (1 : Int32))
def fm_weightOf (u : g_S) (p1 : Int32) : Option (Int32) := fm_weightOf_4 u 200 p1 (0 : Int32) (0 : Int32)
theorem fm_weightOf_4_s (u : g_S) (n : Nat) (x1 : Int32) (x2 : Int32) (x3 : Int32) : fm_weightOf_4 u (n + 1) x1 x2 x3 = (if (u.1 1) ≤ x3 then (some x2) else ck x3 120 <| if ¬ (u.2 12 x3.toNatClampNeg) = x1 then (fm_weightOf_4 u n x1 x2 (x3 + (1 : Int32))) else (fm_isHoax u x3).bind fun v1 => if ¬ v1 = 0 then (fm_weightOf_4 u n x1 x2 (x3 + (1 : Int32))) else ck x3 120 <| if ((u.2 14 x3.toNatClampNeg) &&& (1 : Int32)) = 0 then (ck x3 120 <| if (u.2 9 x3.toNatClampNeg) < 0 then (gl (x2 + (((4 : Int32) - (0 : Int32)) + (0 : Int32))) fun w2 => fm_weightOf_4 u n x1 w2 (x3 + (1 : Int32))) else gl (x2 + (((4 : Int32) - (0 : Int32)) + (1 : Int32))) fun w3 => fm_weightOf_4 u n x1 w3 (x3 + (1 : Int32))) else ck x3 120 <| if (u.2 9 x3.toNatClampNeg) < 0 then (gl (x2 + (((4 : Int32) - (2 : Int32)) + (0 : Int32))) fun w4 => fm_weightOf_4 u n x1 w4 (x3 + (1 : Int32))) else gl (x2 + (((4 : Int32) - (2 : Int32)) + (1 : Int32))) fun w5 => fm_weightOf_4 u n x1 w5 (x3 + (1 : Int32))) := rfl
def fm_placeOf_2 (u : g_S) : Nat → Int32 → Int32 → Option (Int32)
  | 0, _, _ => none
  | n + 1, x1, x2 => if (u.1 1) ≤ x2 then (some (-1 : Int32)) else ck x2 120 <| if ¬ (u.2 12 x2.toNatClampNeg) = x1 then (fm_placeOf_2 u n x1 (x2 + (1 : Int32))) else (fm_isHoax u x2).bind fun v1 => if ¬ v1 = 0 then (fm_placeOf_2 u n x1 (x2 + (1 : Int32))) else ck x2 120 <| if (u.2 9 x2.toNatClampNeg) < 0 then (fm_placeOf_2 u n x1 (x2 + (1 : Int32))) else ck x2 120 <| some (u.2 9 x2.toNatClampNeg)
def fm_placeOf (u : g_S) (p1 : Int32) : Option (Int32) := fm_placeOf_2 u 200 p1 (0 : Int32)
theorem fm_placeOf_2_s (u : g_S) (n : Nat) (x1 : Int32) (x2 : Int32) : fm_placeOf_2 u (n + 1) x1 x2 = (if (u.1 1) ≤ x2 then (some (-1 : Int32)) else ck x2 120 <| if ¬ (u.2 12 x2.toNatClampNeg) = x1 then (fm_placeOf_2 u n x1 (x2 + (1 : Int32))) else (fm_isHoax u x2).bind fun v1 => if ¬ v1 = 0 then (fm_placeOf_2 u n x1 (x2 + (1 : Int32))) else ck x2 120 <| if (u.2 9 x2.toNatClampNeg) < 0 then (fm_placeOf_2 u n x1 (x2 + (1 : Int32))) else ck x2 120 <| some (u.2 9 x2.toNatClampNeg)) := rfl
def fm_latestOf_4 (u : g_S) : Nat → Int32 → Int32 → Int32 → Option (Int32)
  | 0, _, _, _ => none
  | n + 1, x1, x2, x3 => if (u.1 1) ≤ x3 then (some x2) else ck x3 120 <| if ¬ (u.2 12 x3.toNatClampNeg) = x1 then (fm_latestOf_4 u n x1 x2 (x3 + (1 : Int32))) else ck x3 120 <| gl (u.2 11 x3.toNatClampNeg) fun w1 => fm_latestOf_4 u n x1 w1 (x3 + (1 : Int32))
def fm_latestOf (u : g_S) (p1 : Int32) : Option (Int32) := fm_latestOf_4 u 200 p1 (-1 : Int32) (0 : Int32)
theorem fm_latestOf_4_s (u : g_S) (n : Nat) (x1 : Int32) (x2 : Int32) (x3 : Int32) : fm_latestOf_4 u (n + 1) x1 x2 x3 = (if (u.1 1) ≤ x3 then (some x2) else ck x3 120 <| if ¬ (u.2 12 x3.toNatClampNeg) = x1 then (fm_latestOf_4 u n x1 x2 (x3 + (1 : Int32))) else ck x3 120 <| gl (u.2 11 x3.toNatClampNeg) fun w1 => fm_latestOf_4 u n x1 w1 (x3 + (1 : Int32))) := rfl
def fm_eventAt_24 (u : g_S) (x1 : Int32) (x2 : Int32) (y1 : Int32) : Option (Int32 × g_S) := (fm_throwing u y1 (0 : Int32) (0 : Int32)).bind fun v2 => if v2.1 = 0 then ((fm_firstOf v2.2 x1).bind fun v3 => if x2 = (0 : Int32) then (ck x1 60 <| some ((v2.2.2 16 x1.toNatClampNeg), v2.2)) else if x2 = (1 : Int32) then ((fm_size v2.2 x1).bind fun v4 => some (v4, v2.2)) else if x2 = (2 : Int32) then (if 0 ≤ v3 then (ck v3 120 <| some ((v2.2.2 8 v3.toNatClampNeg), v2.2)) else some ((-1 : Int32), v2.2)) else if x2 = (3 : Int32) then ((fm_weightOf v2.2 x1).bind fun v5 => some (v5, v2.2)) else if x2 = (4 : Int32) then ((fm_placeOf v2.2 x1).bind fun v6 => some (v6, v2.2)) else if x2 = (5 : Int32) then (some (v3, v2.2)) else (fm_latestOf v2.2 x1).bind fun v7 => some (v7, v2.2)) else some ((0 : Int32), v2.2)
def fm_eventAt (u : g_S) (p1 : Int32) (p2 : Int32) : Option (Int32 × g_S) := (fm_isEvent u p1).bind fun v1 => if v1 = 0 then (fm_eventAt_24 u p1 p2 (1 : Int32)) else (fm_in p2 (0 : Int32) (6 : Int32)).bind fun v8 => if ¬ v8 = 0 then (fm_eventAt_24 u p1 p2 (0 : Int32)) else fm_eventAt_24 u p1 p2 (1 : Int32)
def fm_member_55 : Nat → g_S → Int32 → Int32 → Int32 → Option (Int32 × g_S)
  | 0, _, _, _, _ => none
  | n + 1, u, x1, x4, x5 => if (u.1 1) ≤ x5 then (some ((0 : Int32), u)) else ck x5 120 <| if ¬ (u.2 12 x5.toNatClampNeg) = x1 then (ck x5 120 <| if ¬ (u.2 12 x5.toNatClampNeg) = x1 then (gl (x4 - (0 : Int32)) fun w3 => fm_member_55 n u x1 w3 (x5 + (1 : Int32))) else gl (x4 - (1 : Int32)) fun w4 => fm_member_55 n u x1 w4 (x5 + (1 : Int32))) else if ¬ x4 = 0 then (ck x5 120 <| if ¬ (u.2 12 x5.toNatClampNeg) = x1 then (gl (x4 - (0 : Int32)) fun w5 => fm_member_55 n u x1 w5 (x5 + (1 : Int32))) else gl (x4 - (1 : Int32)) fun w6 => fm_member_55 n u x1 w6 (x5 + (1 : Int32))) else some (x5, u)
def fm_member_40 (u : g_S) (x1 : Int32) (x2 : Int32) (y1 : Int32) (y2 : Int32) : Option (Int32 × g_S) := (fm_throwing u y1 y2 (0 : Int32)).bind fun v2 => if v2.1 = 0 then (fm_member_55 200 v2.2 x1 x2 (0 : Int32)) else some ((0 : Int32), v2.2)
def fm_member_16 (u : g_S) (x1 : Int32) (x2 : Int32) (x3 : Int32) (y1 : Int32) : Option (Int32 × g_S) := if x3 = 0 then (fm_member_40 u x1 x2 y1 (0 : Int32)) else (fm_size u x1).bind fun v7 => (fm_in x2 (0 : Int32) (v7 - (1 : Int32))).bind fun v8 => if ¬ v8 = 0 then (fm_member_40 u x1 x2 y1 (0 : Int32)) else fm_member_40 u x1 x2 y1 (1 : Int32)
def fm_member (u : g_S) (p1 : Int32) (p2 : Int32) : Option (Int32 × g_S) := (fm_isEvent u p1).bind fun v1 => if ¬ v1 = 0 then (fm_member_16 u p1 p2 v1 (0 : Int32)) else fm_member_16 u p1 p2 v1 (1 : Int32)
theorem fm_member_55_s (u : g_S) (n : Nat) (x1 : Int32) (x4 : Int32) (x5 : Int32) : fm_member_55 (n + 1) u x1 x4 x5 = (if (u.1 1) ≤ x5 then (some ((0 : Int32), u)) else ck x5 120 <| if ¬ (u.2 12 x5.toNatClampNeg) = x1 then (ck x5 120 <| if ¬ (u.2 12 x5.toNatClampNeg) = x1 then (gl (x4 - (0 : Int32)) fun w3 => fm_member_55 n u x1 w3 (x5 + (1 : Int32))) else gl (x4 - (1 : Int32)) fun w4 => fm_member_55 n u x1 w4 (x5 + (1 : Int32))) else if ¬ x4 = 0 then (ck x5 120 <| if ¬ (u.2 12 x5.toNatClampNeg) = x1 then (gl (x4 - (0 : Int32)) fun w5 => fm_member_55 n u x1 w5 (x5 + (1 : Int32))) else gl (x4 - (1 : Int32)) fun w6 => fm_member_55 n u x1 w6 (x5 + (1 : Int32))) else some (x5, u)) := rfl
def fm_count_88 : Nat → g_S → Int32 → Int32 → Int32 → Option (Int32 × g_S)
  | 0, _, _, _, _ => none
  | n + 1, u, x1, x2, x3 => if (u.1 1) ≤ x3 then (some (x2, u)) else if ¬ x1 = (3 : Int32) then (some (x2, u)) else (fm_isHoax u x3).bind fun v3 => if v3 = 0 then (gl (x2 + (0 : Int32)) fun w4 => fm_count_88 n u x1 w4 (x3 + (1 : Int32))) else gl (x2 + (1 : Int32)) fun w5 => fm_count_88 n u x1 w5 (x3 + (1 : Int32))
def fm_count_50 : Nat → g_S → Int32 → Int32 → Int32 → Option (Int32 × g_S)
  | 0, _, _, _, _ => none
  | n + 1, u, x1, x2, x3 => if (u.1 2) ≤ x3 then (fm_count_88 200 u x1 x2 (0 : Int32)) else if ¬ x1 = (2 : Int32) then (fm_count_88 200 u x1 x2 (0 : Int32)) else ck x3 60 <| if ¬ (u.2 16 x3.toNatClampNeg) = 0 then (gl (x2 + (0 : Int32)) fun w6 => fm_count_50 n u x1 w6 (x3 + (1 : Int32))) else gl (x2 + (1 : Int32)) fun w7 => fm_count_50 n u x1 w7 (x3 + (1 : Int32))
def fm_count_15 (u : g_S) (x1 : Int32) (y1 : Int32) : Option (Int32 × g_S) := (fm_throwing u y1 (0 : Int32) (0 : Int32)).bind fun v2 => if v2.1 = 0 then (if (2 : Int32) ≤ x1 then (fm_count_50 200 v2.2 x1 (0 : Int32) (0 : Int32)) else if ¬ x1 = 0 then (some ((v2.2.1 2), v2.2)) else some ((v2.2.1 1), v2.2)) else some ((0 : Int32), v2.2)
def fm_count (u : g_S) (p1 : Int32) : Option (Int32 × g_S) := (fm_in p1 (0 : Int32) (3 : Int32)).bind fun v1 => if ¬ v1 = 0 then (fm_count_15 u p1 (0 : Int32)) else fm_count_15 u p1 (1 : Int32)
theorem fm_count_50_s (u : g_S) (n : Nat) (x1 : Int32) (x2 : Int32) (x3 : Int32) : fm_count_50 (n + 1) u x1 x2 x3 = (if (u.1 2) ≤ x3 then (fm_count_88 200 u x1 x2 (0 : Int32)) else if ¬ x1 = (2 : Int32) then (fm_count_88 200 u x1 x2 (0 : Int32)) else ck x3 60 <| if ¬ (u.2 16 x3.toNatClampNeg) = 0 then (gl (x2 + (0 : Int32)) fun w6 => fm_count_50 n u x1 w6 (x3 + (1 : Int32))) else gl (x2 + (1 : Int32)) fun w7 => fm_count_50 n u x1 w7 (x3 + (1 : Int32))) := rfl
theorem fm_count_88_s (u : g_S) (n : Nat) (x1 : Int32) (x2 : Int32) (x3 : Int32) : fm_count_88 (n + 1) u x1 x2 x3 = (if (u.1 1) ≤ x3 then (some (x2, u)) else if ¬ x1 = (3 : Int32) then (some (x2, u)) else (fm_isHoax u x3).bind fun v3 => if v3 = 0 then (gl (x2 + (0 : Int32)) fun w4 => fm_count_88 n u x1 w4 (x3 + (1 : Int32))) else gl (x2 + (1 : Int32)) fun w5 => fm_count_88 n u x1 w5 (x3 + (1 : Int32))) := rfl
end
section
def cjA (a : Nat → Nat) : List Nat := [a 0, a 1, a 2, a 3, a 4, a 5, a 6, a 7, a 8, a 9, a 10, a 11, a 12, a 13, a 14, a 15, a 16, a 17, a 18, a 19, a 20, a 21, a 22, a 23, a 24, a 25, a 26, a 27]
def cjW (a : Nat → Nat) (cA : ClassId) (u : g_S) : va_W := [(a 0, .inr (4, [.ref (a 1), .ref (a 2), .ref (a 3), .ref (a 4)])), (a 1, .inr (3, [.ref (a 5), .ref (a 6), .ref (a 7), .ref (a 8), .ref (a 9)])), (a 2, .inr (2, [.ref (a 10), .ref (a 11)])), (a 3, .inr (0, [.int (u.1 0), .ref (a 12), .ref (a 13), .ref (a 14), .ref (a 15), .ref (a 16), .ref (a 17), .ref (a 18), .ref (a 19), .ref (a 20), .ref (a 21)])), (a 4, .inr (1, [.int (u.1 1), .ref (a 22), .ref (a 23), .ref (a 24), .ref (a 25), .ref (a 26), .ref (a 27)])), (a 5, .inl (cA, 8, .inl (u.2 0))), (a 6, .inl (cA, 8, .inl (u.2 1))), (a 7, .inl (cA, 8, .inl (u.2 2))), (a 8, .inl (cA, 8, .inl (u.2 3))), (a 9, .inl (cA, 256, .inl (u.2 4))), (a 10, .inl (cA, 8, .inl (u.2 5))), (a 11, .inl (cA, 64, .inl (u.2 6))), (a 12, .inl (cA, 121, .inl (u.2 7))), (a 13, .inl (cA, 121, .inl (u.2 8))), (a 14, .inl (cA, 121, .inl (u.2 9))), (a 15, .inl (cA, 121, .inl (u.2 10))), (a 16, .inl (cA, 121, .inl (u.2 11))), (a 17, .inl (cA, 121, .inl (u.2 12))), (a 18, .inl (cA, 121, .inl (u.2 13))), (a 19, .inl (cA, 121, .inl (u.2 14))), (a 20, .inl (cA, 121, .inl (u.2 15))), (a 21, .inl (cA, 121, .inl (u.2 16))), (a 22, .inl (cA, 60, .inl (u.2 17))), (a 23, .inl (cA, 60, .inl (u.2 18))), (a 24, .inl (cA, 60, .inl (u.2 19))), (a 25, .inl (cA, 60, .inl (u.2 20))), (a 26, .inl (cA, 60, .inl (u.2 21))), (a 27, .inl (cA, 60, .inl (u.2 22)))]
theorem cjW_as (a : Nat → Nat) (cA : ClassId) (u : g_S) : (cjW a cA u).map Prod.fst = cjA a := rfl
theorem cjS_0 (a : Nat → Nat) (cA : ClassId) (u u' : g_S) (i x : Int32) (h : u' = g_sA u 0 i x) : (cjW a cA u).set 5 (a 5, .inl (cA, 8, .inl (upd (u.2 0) i.toNatClampNeg x))) = cjW a cA u' := by subst h; rfl
theorem cjS_1 (a : Nat → Nat) (cA : ClassId) (u u' : g_S) (i x : Int32) (h : u' = g_sA u 1 i x) : (cjW a cA u).set 6 (a 6, .inl (cA, 8, .inl (upd (u.2 1) i.toNatClampNeg x))) = cjW a cA u' := by subst h; rfl
theorem cjS_2 (a : Nat → Nat) (cA : ClassId) (u u' : g_S) (i x : Int32) (h : u' = g_sA u 2 i x) : (cjW a cA u).set 7 (a 7, .inl (cA, 8, .inl (upd (u.2 2) i.toNatClampNeg x))) = cjW a cA u' := by subst h; rfl
theorem cjS_3 (a : Nat → Nat) (cA : ClassId) (u u' : g_S) (i x : Int32) (h : u' = g_sA u 3 i x) : (cjW a cA u).set 8 (a 8, .inl (cA, 8, .inl (upd (u.2 3) i.toNatClampNeg x))) = cjW a cA u' := by subst h; rfl
theorem cjS_4 (a : Nat → Nat) (cA : ClassId) (u u' : g_S) (i x : Int32) (h : u' = g_sA u 4 i x) : (cjW a cA u).set 9 (a 9, .inl (cA, 256, .inl (upd (u.2 4) i.toNatClampNeg x))) = cjW a cA u' := by subst h; rfl
theorem cjS_5 (a : Nat → Nat) (cA : ClassId) (u u' : g_S) (i x : Int32) (h : u' = g_sA u 5 i x) : (cjW a cA u).set 10 (a 10, .inl (cA, 8, .inl (upd (u.2 5) i.toNatClampNeg x))) = cjW a cA u' := by subst h; rfl
theorem cjS_6 (a : Nat → Nat) (cA : ClassId) (u u' : g_S) (i x : Int32) (h : u' = g_sA u 6 i x) : (cjW a cA u).set 11 (a 11, .inl (cA, 64, .inl (upd (u.2 6) i.toNatClampNeg x))) = cjW a cA u' := by subst h; rfl
theorem cjS_7 (a : Nat → Nat) (cA : ClassId) (u u' : g_S) (i x : Int32) (h : u' = g_sA u 7 i x) : (cjW a cA u).set 12 (a 12, .inl (cA, 121, .inl (upd (u.2 7) i.toNatClampNeg x))) = cjW a cA u' := by subst h; rfl
theorem cjS_8 (a : Nat → Nat) (cA : ClassId) (u u' : g_S) (i x : Int32) (h : u' = g_sA u 8 i x) : (cjW a cA u).set 13 (a 13, .inl (cA, 121, .inl (upd (u.2 8) i.toNatClampNeg x))) = cjW a cA u' := by subst h; rfl
theorem cjS_9 (a : Nat → Nat) (cA : ClassId) (u u' : g_S) (i x : Int32) (h : u' = g_sA u 9 i x) : (cjW a cA u).set 14 (a 14, .inl (cA, 121, .inl (upd (u.2 9) i.toNatClampNeg x))) = cjW a cA u' := by subst h; rfl
theorem cjS_10 (a : Nat → Nat) (cA : ClassId) (u u' : g_S) (i x : Int32) (h : u' = g_sA u 10 i x) : (cjW a cA u).set 15 (a 15, .inl (cA, 121, .inl (upd (u.2 10) i.toNatClampNeg x))) = cjW a cA u' := by subst h; rfl
theorem cjS_11 (a : Nat → Nat) (cA : ClassId) (u u' : g_S) (i x : Int32) (h : u' = g_sA u 11 i x) : (cjW a cA u).set 16 (a 16, .inl (cA, 121, .inl (upd (u.2 11) i.toNatClampNeg x))) = cjW a cA u' := by subst h; rfl
theorem cjS_12 (a : Nat → Nat) (cA : ClassId) (u u' : g_S) (i x : Int32) (h : u' = g_sA u 12 i x) : (cjW a cA u).set 17 (a 17, .inl (cA, 121, .inl (upd (u.2 12) i.toNatClampNeg x))) = cjW a cA u' := by subst h; rfl
theorem cjS_13 (a : Nat → Nat) (cA : ClassId) (u u' : g_S) (i x : Int32) (h : u' = g_sA u 13 i x) : (cjW a cA u).set 18 (a 18, .inl (cA, 121, .inl (upd (u.2 13) i.toNatClampNeg x))) = cjW a cA u' := by subst h; rfl
theorem cjS_14 (a : Nat → Nat) (cA : ClassId) (u u' : g_S) (i x : Int32) (h : u' = g_sA u 14 i x) : (cjW a cA u).set 19 (a 19, .inl (cA, 121, .inl (upd (u.2 14) i.toNatClampNeg x))) = cjW a cA u' := by subst h; rfl
theorem cjS_15 (a : Nat → Nat) (cA : ClassId) (u u' : g_S) (i x : Int32) (h : u' = g_sA u 15 i x) : (cjW a cA u).set 20 (a 20, .inl (cA, 121, .inl (upd (u.2 15) i.toNatClampNeg x))) = cjW a cA u' := by subst h; rfl
theorem cjS_16 (a : Nat → Nat) (cA : ClassId) (u u' : g_S) (i x : Int32) (h : u' = g_sA u 16 i x) : (cjW a cA u).set 21 (a 21, .inl (cA, 121, .inl (upd (u.2 16) i.toNatClampNeg x))) = cjW a cA u' := by subst h; rfl
theorem cjS_17 (a : Nat → Nat) (cA : ClassId) (u u' : g_S) (i x : Int32) (h : u' = g_sA u 17 i x) : (cjW a cA u).set 22 (a 22, .inl (cA, 60, .inl (upd (u.2 17) i.toNatClampNeg x))) = cjW a cA u' := by subst h; rfl
theorem cjS_18 (a : Nat → Nat) (cA : ClassId) (u u' : g_S) (i x : Int32) (h : u' = g_sA u 18 i x) : (cjW a cA u).set 23 (a 23, .inl (cA, 60, .inl (upd (u.2 18) i.toNatClampNeg x))) = cjW a cA u' := by subst h; rfl
theorem cjS_19 (a : Nat → Nat) (cA : ClassId) (u u' : g_S) (i x : Int32) (h : u' = g_sA u 19 i x) : (cjW a cA u).set 24 (a 24, .inl (cA, 60, .inl (upd (u.2 19) i.toNatClampNeg x))) = cjW a cA u' := by subst h; rfl
theorem cjS_20 (a : Nat → Nat) (cA : ClassId) (u u' : g_S) (i x : Int32) (h : u' = g_sA u 20 i x) : (cjW a cA u).set 25 (a 25, .inl (cA, 60, .inl (upd (u.2 20) i.toNatClampNeg x))) = cjW a cA u' := by subst h; rfl
theorem cjS_21 (a : Nat → Nat) (cA : ClassId) (u u' : g_S) (i x : Int32) (h : u' = g_sA u 21 i x) : (cjW a cA u).set 26 (a 26, .inl (cA, 60, .inl (upd (u.2 21) i.toNatClampNeg x))) = cjW a cA u' := by subst h; rfl
theorem cjS_22 (a : Nat → Nat) (cA : ClassId) (u u' : g_S) (i x : Int32) (h : u' = g_sA u 22 i x) : (cjW a cA u).set 27 (a 27, .inl (cA, 60, .inl (upd (u.2 22) i.toNatClampNeg x))) = cjW a cA u' := by subst h; rfl
theorem cjP_0 (a : Nat → Nat) (cA : ClassId) (u u' : g_S) (x : Int32) (h : u' = g_sI u 0 x) : (cjW a cA u).set 3 (a 3, .inr (0, ([.int (u.1 0), .ref (a 12), .ref (a 13), .ref (a 14), .ref (a 15), .ref (a 16), .ref (a 17), .ref (a 18), .ref (a 19), .ref (a 20), .ref (a 21)] : List Value).set 0 (.int x))) = cjW a cA u' := by subst h; rfl
theorem cjP_1 (a : Nat → Nat) (cA : ClassId) (u u' : g_S) (x : Int32) (h : u' = g_sI u 1 x) : (cjW a cA u).set 4 (a 4, .inr (1, ([.int (u.1 1), .ref (a 22), .ref (a 23), .ref (a 24), .ref (a 25), .ref (a 26), .ref (a 27)] : List Value).set 0 (.int x))) = cjW a cA u' := by subst h; rfl
def mdA (a : Nat → Nat) : List Nat := [a 0, a 1, a 2, a 3, a 4, a 5, a 6, a 7, a 8, a 9, a 10, a 11, a 12, a 13, a 14, a 15, a 16, a 17, a 18, a 19, a 20]
def mdW (a : Nat → Nat) (cA : ClassId) (u : g_S) : va_W := [(a 0, .inr (5, [.int (u.1 0), .ref (a 1), .ref (a 2), .ref (a 3), .ref (a 4), .ref (a 5), .ref (a 6), .ref (a 7), .int (u.1 1), .int (u.1 2), .ref (a 8), .ref (a 9), .ref (a 10), .ref (a 11), .ref (a 12), .ref (a 13), .ref (a 14), .ref (a 15), .ref (a 16), .ref (a 17), .ref (a 18), .ref (a 19), .ref (a 20), .int (u.1 3)])), (a 1, .inl (cA, 8, .inl (u.2 0))), (a 2, .inl (cA, 8, .inl (u.2 1))), (a 3, .inl (cA, 8, .inl (u.2 2))), (a 4, .inl (cA, 8, .inl (u.2 3))), (a 5, .inl (cA, 256, .inl (u.2 4))), (a 6, .inl (cA, 8, .inl (u.2 5))), (a 7, .inl (cA, 64, .inl (u.2 6))), (a 8, .inl (cA, 120, .inl (u.2 7))), (a 9, .inl (cA, 120, .inl (u.2 8))), (a 10, .inl (cA, 120, .inl (u.2 9))), (a 11, .inl (cA, 120, .inl (u.2 10))), (a 12, .inl (cA, 120, .inl (u.2 11))), (a 13, .inl (cA, 120, .inl (u.2 12))), (a 14, .inl (cA, 120, .inl (u.2 13))), (a 15, .inl (cA, 120, .inl (u.2 14))), (a 16, .inl (cA, 120, .inl (u.2 15))), (a 17, .inl (cA, 60, .inl (u.2 16))), (a 18, .inl (cA, 60, .inl (u.2 17))), (a 19, .inl (cA, 60, .inl (u.2 18))), (a 20, .inl (cA, 60, .inl (u.2 19)))]
theorem mdW_as (a : Nat → Nat) (cA : ClassId) (u : g_S) : (mdW a cA u).map Prod.fst = mdA a := rfl
theorem mdS_0 (a : Nat → Nat) (cA : ClassId) (u u' : g_S) (i x : Int32) (h : u' = g_sA u 0 i x) : (mdW a cA u).set 1 (a 1, .inl (cA, 8, .inl (upd (u.2 0) i.toNatClampNeg x))) = mdW a cA u' := by subst h; rfl
theorem mdS_1 (a : Nat → Nat) (cA : ClassId) (u u' : g_S) (i x : Int32) (h : u' = g_sA u 1 i x) : (mdW a cA u).set 2 (a 2, .inl (cA, 8, .inl (upd (u.2 1) i.toNatClampNeg x))) = mdW a cA u' := by subst h; rfl
theorem mdS_2 (a : Nat → Nat) (cA : ClassId) (u u' : g_S) (i x : Int32) (h : u' = g_sA u 2 i x) : (mdW a cA u).set 3 (a 3, .inl (cA, 8, .inl (upd (u.2 2) i.toNatClampNeg x))) = mdW a cA u' := by subst h; rfl
theorem mdS_3 (a : Nat → Nat) (cA : ClassId) (u u' : g_S) (i x : Int32) (h : u' = g_sA u 3 i x) : (mdW a cA u).set 4 (a 4, .inl (cA, 8, .inl (upd (u.2 3) i.toNatClampNeg x))) = mdW a cA u' := by subst h; rfl
theorem mdS_4 (a : Nat → Nat) (cA : ClassId) (u u' : g_S) (i x : Int32) (h : u' = g_sA u 4 i x) : (mdW a cA u).set 5 (a 5, .inl (cA, 256, .inl (upd (u.2 4) i.toNatClampNeg x))) = mdW a cA u' := by subst h; rfl
theorem mdS_5 (a : Nat → Nat) (cA : ClassId) (u u' : g_S) (i x : Int32) (h : u' = g_sA u 5 i x) : (mdW a cA u).set 6 (a 6, .inl (cA, 8, .inl (upd (u.2 5) i.toNatClampNeg x))) = mdW a cA u' := by subst h; rfl
theorem mdS_6 (a : Nat → Nat) (cA : ClassId) (u u' : g_S) (i x : Int32) (h : u' = g_sA u 6 i x) : (mdW a cA u).set 7 (a 7, .inl (cA, 64, .inl (upd (u.2 6) i.toNatClampNeg x))) = mdW a cA u' := by subst h; rfl
theorem mdS_7 (a : Nat → Nat) (cA : ClassId) (u u' : g_S) (i x : Int32) (h : u' = g_sA u 7 i x) : (mdW a cA u).set 8 (a 8, .inl (cA, 120, .inl (upd (u.2 7) i.toNatClampNeg x))) = mdW a cA u' := by subst h; rfl
theorem mdS_8 (a : Nat → Nat) (cA : ClassId) (u u' : g_S) (i x : Int32) (h : u' = g_sA u 8 i x) : (mdW a cA u).set 9 (a 9, .inl (cA, 120, .inl (upd (u.2 8) i.toNatClampNeg x))) = mdW a cA u' := by subst h; rfl
theorem mdS_9 (a : Nat → Nat) (cA : ClassId) (u u' : g_S) (i x : Int32) (h : u' = g_sA u 9 i x) : (mdW a cA u).set 10 (a 10, .inl (cA, 120, .inl (upd (u.2 9) i.toNatClampNeg x))) = mdW a cA u' := by subst h; rfl
theorem mdS_10 (a : Nat → Nat) (cA : ClassId) (u u' : g_S) (i x : Int32) (h : u' = g_sA u 10 i x) : (mdW a cA u).set 11 (a 11, .inl (cA, 120, .inl (upd (u.2 10) i.toNatClampNeg x))) = mdW a cA u' := by subst h; rfl
theorem mdS_11 (a : Nat → Nat) (cA : ClassId) (u u' : g_S) (i x : Int32) (h : u' = g_sA u 11 i x) : (mdW a cA u).set 12 (a 12, .inl (cA, 120, .inl (upd (u.2 11) i.toNatClampNeg x))) = mdW a cA u' := by subst h; rfl
theorem mdS_12 (a : Nat → Nat) (cA : ClassId) (u u' : g_S) (i x : Int32) (h : u' = g_sA u 12 i x) : (mdW a cA u).set 13 (a 13, .inl (cA, 120, .inl (upd (u.2 12) i.toNatClampNeg x))) = mdW a cA u' := by subst h; rfl
theorem mdS_13 (a : Nat → Nat) (cA : ClassId) (u u' : g_S) (i x : Int32) (h : u' = g_sA u 13 i x) : (mdW a cA u).set 14 (a 14, .inl (cA, 120, .inl (upd (u.2 13) i.toNatClampNeg x))) = mdW a cA u' := by subst h; rfl
theorem mdS_14 (a : Nat → Nat) (cA : ClassId) (u u' : g_S) (i x : Int32) (h : u' = g_sA u 14 i x) : (mdW a cA u).set 15 (a 15, .inl (cA, 120, .inl (upd (u.2 14) i.toNatClampNeg x))) = mdW a cA u' := by subst h; rfl
theorem mdS_15 (a : Nat → Nat) (cA : ClassId) (u u' : g_S) (i x : Int32) (h : u' = g_sA u 15 i x) : (mdW a cA u).set 16 (a 16, .inl (cA, 120, .inl (upd (u.2 15) i.toNatClampNeg x))) = mdW a cA u' := by subst h; rfl
theorem mdS_16 (a : Nat → Nat) (cA : ClassId) (u u' : g_S) (i x : Int32) (h : u' = g_sA u 16 i x) : (mdW a cA u).set 17 (a 17, .inl (cA, 60, .inl (upd (u.2 16) i.toNatClampNeg x))) = mdW a cA u' := by subst h; rfl
theorem mdS_17 (a : Nat → Nat) (cA : ClassId) (u u' : g_S) (i x : Int32) (h : u' = g_sA u 17 i x) : (mdW a cA u).set 18 (a 18, .inl (cA, 60, .inl (upd (u.2 17) i.toNatClampNeg x))) = mdW a cA u' := by subst h; rfl
theorem mdS_18 (a : Nat → Nat) (cA : ClassId) (u u' : g_S) (i x : Int32) (h : u' = g_sA u 18 i x) : (mdW a cA u).set 19 (a 19, .inl (cA, 60, .inl (upd (u.2 18) i.toNatClampNeg x))) = mdW a cA u' := by subst h; rfl
theorem mdS_19 (a : Nat → Nat) (cA : ClassId) (u u' : g_S) (i x : Int32) (h : u' = g_sA u 19 i x) : (mdW a cA u).set 20 (a 20, .inl (cA, 60, .inl (upd (u.2 19) i.toNatClampNeg x))) = mdW a cA u' := by subst h; rfl
theorem mdP_0 (a : Nat → Nat) (cA : ClassId) (u u' : g_S) (x : Int32) (h : u' = g_sI u 0 x) : (mdW a cA u).set 0 (a 0, .inr (5, ([.int (u.1 0), .ref (a 1), .ref (a 2), .ref (a 3), .ref (a 4), .ref (a 5), .ref (a 6), .ref (a 7), .int (u.1 1), .int (u.1 2), .ref (a 8), .ref (a 9), .ref (a 10), .ref (a 11), .ref (a 12), .ref (a 13), .ref (a 14), .ref (a 15), .ref (a 16), .ref (a 17), .ref (a 18), .ref (a 19), .ref (a 20), .int (u.1 3)] : List Value).set 0 (.int x))) = mdW a cA u' := by subst h; rfl
theorem mdP_1 (a : Nat → Nat) (cA : ClassId) (u u' : g_S) (x : Int32) (h : u' = g_sI u 1 x) : (mdW a cA u).set 0 (a 0, .inr (5, ([.int (u.1 0), .ref (a 1), .ref (a 2), .ref (a 3), .ref (a 4), .ref (a 5), .ref (a 6), .ref (a 7), .int (u.1 1), .int (u.1 2), .ref (a 8), .ref (a 9), .ref (a 10), .ref (a 11), .ref (a 12), .ref (a 13), .ref (a 14), .ref (a 15), .ref (a 16), .ref (a 17), .ref (a 18), .ref (a 19), .ref (a 20), .int (u.1 3)] : List Value).set 8 (.int x))) = mdW a cA u' := by subst h; rfl
theorem mdP_2 (a : Nat → Nat) (cA : ClassId) (u u' : g_S) (x : Int32) (h : u' = g_sI u 2 x) : (mdW a cA u).set 0 (a 0, .inr (5, ([.int (u.1 0), .ref (a 1), .ref (a 2), .ref (a 3), .ref (a 4), .ref (a 5), .ref (a 6), .ref (a 7), .int (u.1 1), .int (u.1 2), .ref (a 8), .ref (a 9), .ref (a 10), .ref (a 11), .ref (a 12), .ref (a 13), .ref (a 14), .ref (a 15), .ref (a 16), .ref (a 17), .ref (a 18), .ref (a 19), .ref (a 20), .int (u.1 3)] : List Value).set 9 (.int x))) = mdW a cA u' := by subst h; rfl
theorem mdP_3 (a : Nat → Nat) (cA : ClassId) (u u' : g_S) (x : Int32) (h : u' = g_sI u 3 x) : (mdW a cA u).set 0 (a 0, .inr (5, ([.int (u.1 0), .ref (a 1), .ref (a 2), .ref (a 3), .ref (a 4), .ref (a 5), .ref (a 6), .ref (a 7), .int (u.1 1), .int (u.1 2), .ref (a 8), .ref (a 9), .ref (a 10), .ref (a 11), .ref (a 12), .ref (a 13), .ref (a 14), .ref (a 15), .ref (a 16), .ref (a 17), .ref (a 18), .ref (a 19), .ref (a 20), .int (u.1 3)] : List Value).set 23 (.int x))) = mdW a cA u' := by subst h; rfl
end
section
theorem igX4 : ∀ w ∈ u_ws RX4 TX4 4, w ∈ gT := fun w h => gT_of (inX4 w h) ((by decide +kernel : ∀ w ∈ u_ws RX4 TX4 4, goodWord w = true) w h)
theorem igX3 : ∀ w ∈ u_ws RX3 TX3 5, w ∈ gT := fun w h => gT_of (inX3 w h) ((by decide +kernel : ∀ w ∈ u_ws RX3 TX3 5, goodWord w = true) w h)
theorem igX2 : ∀ w ∈ u_ws RX2 TX2 2, w ∈ gT := fun w h => gT_of (inX2 w h) ((by decide +kernel : ∀ w ∈ u_ws RX2 TX2 2, goodWord w = true) w h)
theorem igX0 : ∀ w ∈ u_ws RX0 TX0 11, w ∈ gT := fun w h => gT_of (inX0 w h) ((by decide +kernel : ∀ w ∈ u_ws RX0 TX0 11, goodWord w = true) w h)
theorem igX1 : ∀ w ∈ u_ws RX1 TX1 7, w ∈ gT := fun w h => gT_of (inX1 w h) ((by decide +kernel : ∀ w ∈ u_ws RX1 TX1 7, goodWord w = true) w h)
theorem igX6 : ∀ w ∈ u_ws RX6 TX6 24, w ∈ gT := fun w h => gT_of (inX6 w h) ((by decide +kernel : ∀ w ∈ u_ws RX6 TX6 24, goodWord w = true) w h)
theorem kcj_0 : (.classLink RX4 190 "java/lang/IllegalArgumentException" : Cond) ∈ gT := gT_of (List.mem_append_right _ (List.mem_of_getElem? (i := 184) (by decide +kernel))) (by decide +kernel)
theorem kcj_1 : (.initialized "java/lang/IllegalArgumentException" : Cond) ∈ gT := gT_of (List.mem_append_right _ (List.mem_of_getElem? (i := 11) (by decide +kernel))) (by decide +kernel)
theorem kcj_2 : (.classLink RX4 195 "java/lang/IndexOutOfBoundsException" : Cond) ∈ gT := gT_of (List.mem_append_right _ (List.mem_of_getElem? (i := 257) (by decide +kernel))) (by decide +kernel)
theorem kcj_3 : (.initialized "java/lang/IndexOutOfBoundsException" : Cond) ∈ gT := gT_of (List.mem_append_right _ (List.mem_of_getElem? (i := 12) (by decide +kernel))) (by decide +kernel)
theorem kcj_4 : (.fieldLink RX4 12 "CallJoin" "rules" "LCallJoin$Rules;" : Cond) ∈ gT := gT_of (List.mem_append_right _ (List.mem_of_getElem? (i := 156) (by decide +kernel))) (by decide +kernel)
theorem kcj_5 : (.fieldLink RX4 49 "CallJoin$Rules" "distance" "[I" : Cond) ∈ gT := gT_of (List.mem_append_right _ (List.mem_of_getElem? (i := 35) (by decide +kernel))) (by decide +kernel)
theorem kcj_6 : (.fieldLink RX4 53 "CallJoin$Rules" "span" "[I" : Cond) ∈ gT := gT_of (List.mem_append_right _ (List.mem_of_getElem? (i := 37) (by decide +kernel))) (by decide +kernel)
theorem kcj_7 : (.fieldLink RX4 56 "CallJoin$Rules" "needOver" "[I" : Cond) ∈ gT := gT_of (List.mem_append_right _ (List.mem_of_getElem? (i := 39) (by decide +kernel))) (by decide +kernel)
theorem kcj_8 : (.fieldLink RX4 59 "CallJoin$Rules" "needUnder" "[I" : Cond) ∈ gT := gT_of (List.mem_append_right _ (List.mem_of_getElem? (i := 41) (by decide +kernel))) (by decide +kernel)
theorem kcj_9 : (.constant RX4 48 (100001 : Int32) : Cond) ∈ gT := gT_of (List.mem_append_right _ (List.mem_of_getElem? (i := 273) (by decide +kernel))) (by decide +kernel)
theorem kcj_10 : (.fieldLink RX4 62 "CallJoin$Rules" "weights" "[I" : Cond) ∈ gT := gT_of (List.mem_append_right _ (List.mem_of_getElem? (i := 43) (by decide +kernel))) (by decide +kernel)
theorem kcj_11 : (.classLink RX4 205 "java/lang/UnsupportedOperationException" : Cond) ∈ gT := gT_of (List.mem_append_right _ (List.mem_of_getElem? (i := 293) (by decide +kernel))) (by decide +kernel)
theorem kcj_12 : (.initialized "java/lang/UnsupportedOperationException" : Cond) ∈ gT := gT_of (List.mem_append_right _ (List.mem_of_getElem? (i := 13) (by decide +kernel))) (by decide +kernel)
theorem kcj_13 : (.fieldLink RX2 15 "CallJoin$Roads" "points" "[I" : Cond) ∈ gT := gT_of (List.mem_append_right _ (List.mem_of_getElem? (i := 64) (by decide +kernel))) (by decide +kernel)
theorem kcj_14 : (.fieldLink RX2 9 "CallJoin$Roads" "size" "[I" : Cond) ∈ gT := gT_of (List.mem_append_right _ (List.mem_of_getElem? (i := 62) (by decide +kernel))) (by decide +kernel)
theorem kcj_15 : (.fieldLink RX4 19 "CallJoin" "roads" "LCallJoin$Roads;" : Cond) ∈ gT := gT_of (List.mem_append_right _ (List.mem_of_getElem? (i := 157) (by decide +kernel))) (by decide +kernel)
theorem kcj_16 : (.constant RX4 65 (100000000 : Int32) : Cond) ∈ gT := gT_of (List.mem_append_right _ (List.mem_of_getElem? (i := 289) (by decide +kernel))) (by decide +kernel)
theorem kcj_17 : (.fieldLink RX4 66 "CallJoin$Roads" "size" "[I" : Cond) ∈ gT := gT_of (List.mem_append_right _ (List.mem_of_getElem? (i := 63) (by decide +kernel))) (by decide +kernel)
theorem kcj_18 : (.fieldLink RX0 9 "CallJoin$Calls" "size" "I" : Cond) ∈ gT := gT_of (List.mem_append_right _ (List.mem_of_getElem? (i := 76) (by decide +kernel))) (by decide +kernel)
theorem kcj_19 : (.fieldLink RX0 31 "CallJoin$Calls" "time" "[I" : Cond) ∈ gT := gT_of (List.mem_append_right _ (List.mem_of_getElem? (i := 88) (by decide +kernel))) (by decide +kernel)
theorem kcj_20 : (.fieldLink RX4 26 "CallJoin" "calls" "LCallJoin$Calls;" : Cond) ∈ gT := gT_of (List.mem_append_right _ (List.mem_of_getElem? (i := 158) (by decide +kernel))) (by decide +kernel)
theorem kcj_21 : (.fieldLink RX0 15 "CallJoin$Calls" "line" "[I" : Cond) ∈ gT := gT_of (List.mem_append_right _ (List.mem_of_getElem? (i := 78) (by decide +kernel))) (by decide +kernel)
theorem kcj_22 : (.fieldLink RX0 19 "CallJoin$Calls" "kind" "[I" : Cond) ∈ gT := gT_of (List.mem_append_right _ (List.mem_of_getElem? (i := 80) (by decide +kernel))) (by decide +kernel)
theorem kcj_23 : (.fieldLink RX0 22 "CallJoin$Calls" "point" "[I" : Cond) ∈ gT := gT_of (List.mem_append_right _ (List.mem_of_getElem? (i := 82) (by decide +kernel))) (by decide +kernel)
theorem kcj_24 : (.fieldLink RX0 25 "CallJoin$Calls" "words" "[I" : Cond) ∈ gT := gT_of (List.mem_append_right _ (List.mem_of_getElem? (i := 84) (by decide +kernel))) (by decide +kernel)
theorem kcj_25 : (.fieldLink RX0 28 "CallJoin$Calls" "road" "[I" : Cond) ∈ gT := gT_of (List.mem_append_right _ (List.mem_of_getElem? (i := 86) (by decide +kernel))) (by decide +kernel)
theorem kcj_26 : (.fieldLink RX0 37 "CallJoin$Calls" "reason" "[I" : Cond) ∈ gT := gT_of (List.mem_append_right _ (List.mem_of_getElem? (i := 92) (by decide +kernel))) (by decide +kernel)
theorem kcj_27 : (.fieldLink RX0 40 "CallJoin$Calls" "how" "[I" : Cond) ∈ gT := gT_of (List.mem_append_right _ (List.mem_of_getElem? (i := 94) (by decide +kernel))) (by decide +kernel)
theorem kcj_28 : (.fieldLink RX0 43 "CallJoin$Calls" "marks" "[I" : Cond) ∈ gT := gT_of (List.mem_append_right _ (List.mem_of_getElem? (i := 96) (by decide +kernel))) (by decide +kernel)
theorem kcj_29 : (.fieldLink RX4 33 "CallJoin" "events" "LCallJoin$Events;" : Cond) ∈ gT := gT_of (List.mem_append_right _ (List.mem_of_getElem? (i := 159) (by decide +kernel))) (by decide +kernel)
theorem kcj_30 : (.fieldLink RX4 121 "CallJoin$Events" "state" "[I" : Cond) ∈ gT := gT_of (List.mem_append_right _ (List.mem_of_getElem? (i := 130) (by decide +kernel))) (by decide +kernel)
theorem kcj_31 : (.fieldLink RX4 95 "CallJoin$Calls" "event" "[I" : Cond) ∈ gT := gT_of (List.mem_append_right _ (List.mem_of_getElem? (i := 91) (by decide +kernel))) (by decide +kernel)
theorem kcj_32 : (.fieldLink RX4 267 "CallJoin$Calls" "time" "[I" : Cond) ∈ gT := gT_of (List.mem_append_right _ (List.mem_of_getElem? (i := 89) (by decide +kernel))) (by decide +kernel)
theorem kcj_33 : (.fieldLink RX4 111 "CallJoin$Calls" "kind" "[I" : Cond) ∈ gT := gT_of (List.mem_append_right _ (List.mem_of_getElem? (i := 81) (by decide +kernel))) (by decide +kernel)
theorem kcj_34 : (.fieldLink RX4 232 "CallJoin$Calls" "line" "[I" : Cond) ∈ gT := gT_of (List.mem_append_right _ (List.mem_of_getElem? (i := 79) (by decide +kernel))) (by decide +kernel)
theorem kcj_35 : (.fieldLink RX4 80 "CallJoin$Calls" "size" "I" : Cond) ∈ gT := gT_of (List.mem_append_right _ (List.mem_of_getElem? (i := 77) (by decide +kernel))) (by decide +kernel)
theorem kcj_36 : (.fieldLink RX4 91 "CallJoin$Calls" "reason" "[I" : Cond) ∈ gT := gT_of (List.mem_append_right _ (List.mem_of_getElem? (i := 93) (by decide +kernel))) (by decide +kernel)
theorem kcj_37 : (.fieldLink RX4 118 "CallJoin$Calls" "how" "[I" : Cond) ∈ gT := gT_of (List.mem_append_right _ (List.mem_of_getElem? (i := 95) (by decide +kernel))) (by decide +kernel)
theorem kcj_38 : (.fieldLink RX1 15 "CallJoin$Events" "state" "[I" : Cond) ∈ gT := gT_of (List.mem_append_right _ (List.mem_of_getElem? (i := 129) (by decide +kernel))) (by decide +kernel)
theorem kcj_39 : (.fieldLink RX1 19 "CallJoin$Events" "kind" "[I" : Cond) ∈ gT := gT_of (List.mem_append_right _ (List.mem_of_getElem? (i := 131) (by decide +kernel))) (by decide +kernel)
theorem kcj_40 : (.fieldLink RX1 25 "CallJoin$Events" "road" "[I" : Cond) ∈ gT := gT_of (List.mem_append_right _ (List.mem_of_getElem? (i := 135) (by decide +kernel))) (by decide +kernel)
theorem kcj_41 : (.initialized RX4 : Cond) ∈ gT := gT_of (List.mem_append_right _ (List.mem_of_getElem? (i := 1) (by decide +kernel))) (by decide +kernel)
theorem kcj_42 : (.static yX4_eastOf : Cond) ∈ gT := gT_of (List.mem_append_right _ (List.mem_of_getElem? (i := 380) (by decide +kernel))) (by decide +kernel)
theorem kcj_43 : (.static yX4_northOf : Cond) ∈ gT := gT_of (List.mem_append_right _ (List.mem_of_getElem? (i := 383) (by decide +kernel))) (by decide +kernel)
theorem kcj_44 : (.constantLong RX2 33 (2500 : Int64) : Cond) ∈ gT := gT_of (List.mem_append_right _ (List.mem_of_getElem? (i := 390) (by decide +kernel))) (by decide +kernel)
theorem kcj_45 : (.static yX4_squareBetween : Cond) ∈ gT := gT_of (List.mem_append_right _ (List.mem_of_getElem? (i := 386) (by decide +kernel))) (by decide +kernel)
theorem kcj_46 : (.fieldLink RX4 134 "CallJoin$Events" "road" "[I" : Cond) ∈ gT := gT_of (List.mem_append_right _ (List.mem_of_getElem? (i := 136) (by decide +kernel))) (by decide +kernel)
theorem kcj_47 : (.fieldLink RX4 247 "CallJoin$Calls" "point" "[I" : Cond) ∈ gT := gT_of (List.mem_append_right _ (List.mem_of_getElem? (i := 83) (by decide +kernel))) (by decide +kernel)
theorem kcj_48 : (.fieldLink RX4 137 "CallJoin$Events" "from" "[I" : Cond) ∈ gT := gT_of (List.mem_append_right _ (List.mem_of_getElem? (i := 138) (by decide +kernel))) (by decide +kernel)
theorem kcj_49 : (.fieldLink RX4 145 "CallJoin$Events" "to" "[I" : Cond) ∈ gT := gT_of (List.mem_append_right _ (List.mem_of_getElem? (i := 140) (by decide +kernel))) (by decide +kernel)
theorem kcj_50 : (.fieldLink RX4 250 "CallJoin$Calls" "road" "[I" : Cond) ∈ gT := gT_of (List.mem_append_right _ (List.mem_of_getElem? (i := 87) (by decide +kernel))) (by decide +kernel)
theorem kcj_51 : (.fieldLink RX4 94 "CallJoin$Events" "size" "I" : Cond) ∈ gT := gT_of (List.mem_append_right _ (List.mem_of_getElem? (i := 128) (by decide +kernel))) (by decide +kernel)
theorem kcj_52 : (.fieldLink RX4 124 "CallJoin$Events" "first" "[I" : Cond) ∈ gT := gT_of (List.mem_append_right _ (List.mem_of_getElem? (i := 134) (by decide +kernel))) (by decide +kernel)
theorem kcj_53 : (.fieldLink RX3 24 "CallJoin$Rules" "weights" "[I" : Cond) ∈ gT := gT_of (List.mem_append_right _ (List.mem_of_getElem? (i := 42) (by decide +kernel))) (by decide +kernel)
theorem kcj_54 : (.fieldLink RX3 21 "CallJoin$Rules" "needUnder" "[I" : Cond) ∈ gT := gT_of (List.mem_append_right _ (List.mem_of_getElem? (i := 40) (by decide +kernel))) (by decide +kernel)
theorem kcj_55 : (.fieldLink RX3 18 "CallJoin$Rules" "needOver" "[I" : Cond) ∈ gT := gT_of (List.mem_append_right _ (List.mem_of_getElem? (i := 38) (by decide +kernel))) (by decide +kernel)
theorem kcj_56 : (.constantLong RX4 265 (4 : Int64) : Cond) ∈ gT := gT_of (List.mem_append_right _ (List.mem_of_getElem? (i := 412) (by decide +kernel))) (by decide +kernel)
theorem kcj_57 : (.fieldLink RX4 154 "CallJoin$Calls" "words" "[I" : Cond) ∈ gT := gT_of (List.mem_append_right _ (List.mem_of_getElem? (i := 85) (by decide +kernel))) (by decide +kernel)
theorem kcj_58 : (.fieldLink RX1 9 "CallJoin$Events" "size" "I" : Cond) ∈ gT := gT_of (List.mem_append_right _ (List.mem_of_getElem? (i := 127) (by decide +kernel))) (by decide +kernel)
theorem kcj_59 : (.fieldLink RX1 22 "CallJoin$Events" "first" "[I" : Cond) ∈ gT := gT_of (List.mem_append_right _ (List.mem_of_getElem? (i := 133) (by decide +kernel))) (by decide +kernel)
theorem kcj_60 : (.fieldLink RX4 101 "CallJoin$Calls" "marks" "[I" : Cond) ∈ gT := gT_of (List.mem_append_right _ (List.mem_of_getElem? (i := 97) (by decide +kernel))) (by decide +kernel)
theorem kcj_61 : (.classLink RX4 200 "java/lang/IllegalStateException" : Cond) ∈ gT := gT_of (List.mem_append_right _ (List.mem_of_getElem? (i := 446) (by decide +kernel))) (by decide +kernel)
theorem kcj_62 : (.initialized "java/lang/IllegalStateException" : Cond) ∈ gT := gT_of (List.mem_append_right _ (List.mem_of_getElem? (i := 14) (by decide +kernel))) (by decide +kernel)
theorem kcj_63 : (.fieldLink RX0 34 "CallJoin$Calls" "event" "[I" : Cond) ∈ gT := gT_of (List.mem_append_right _ (List.mem_of_getElem? (i := 90) (by decide +kernel))) (by decide +kernel)
theorem kcj_64 : (.methodLink RX4 140 Lib.Math.min.name : Cond) ∈ gT := gT_of (List.mem_append_right _ (List.mem_of_getElem? (i := 492) (by decide +kernel))) (by decide +kernel)
theorem kcj_65 : (.static Lib.Math.min.name : Cond) ∈ gT := gT_of (List.mem_append_right _ (List.mem_of_getElem? (i := 493) (by decide +kernel))) (by decide +kernel)
theorem kcj_66 : (.initialized "java/lang/Math" : Cond) ∈ gT := gT_of (List.mem_append_right _ (List.mem_of_getElem? (i := 15) (by decide +kernel))) (by decide +kernel)
theorem kcj_67 : (.code Lib.Math.min.name Lib.Math.min.code 2 (some .int) : Cond) ∈ gT := gT_of (List.mem_append_right _ (List.mem_of_getElem? (i := 494) (by decide +kernel))) (by decide +kernel)
theorem kcj_68 : (.methodLink RX4 148 Lib.Math.max.name : Cond) ∈ gT := gT_of (List.mem_append_right _ (List.mem_of_getElem? (i := 495) (by decide +kernel))) (by decide +kernel)
theorem kcj_69 : (.static Lib.Math.max.name : Cond) ∈ gT := gT_of (List.mem_append_right _ (List.mem_of_getElem? (i := 496) (by decide +kernel))) (by decide +kernel)
theorem kcj_70 : (.code Lib.Math.max.name Lib.Math.max.code 2 (some .int) : Cond) ∈ gT := gT_of (List.mem_append_right _ (List.mem_of_getElem? (i := 497) (by decide +kernel))) (by decide +kernel)
theorem kcj_71 : (.classLink RX4 160 "java/lang/ArithmeticException" : Cond) ∈ gT := gT_of (List.mem_append_right _ (List.mem_of_getElem? (i := 517) (by decide +kernel))) (by decide +kernel)
theorem kcj_72 : (.initialized "java/lang/ArithmeticException" : Cond) ∈ gT := gT_of (List.mem_append_right _ (List.mem_of_getElem? (i := 16) (by decide +kernel))) (by decide +kernel)
theorem kcj_73 : (.fieldLink RX4 170 "CallJoin$Events" "kind" "[I" : Cond) ∈ gT := gT_of (List.mem_append_right _ (List.mem_of_getElem? (i := 132) (by decide +kernel))) (by decide +kernel)
theorem kcj_74 : (.methodLink RX4 45 yX4_needRange : Cond) ∈ gT := gT_of (List.mem_append_right _ (List.mem_of_getElem? (i := 254) (by decide +kernel))) (by decide +kernel)
theorem kcj_75 : (.static yX4_needRange : Cond) ∈ gT := gT_of (List.mem_append_right _ (List.mem_of_getElem? (i := 255) (by decide +kernel))) (by decide +kernel)
theorem kcj_76 : (.methodLink RX4 37 yX4_isBelow : Cond) ∈ gT := gT_of (List.mem_append_right _ (List.mem_of_getElem? (i := 178) (by decide +kernel))) (by decide +kernel)
theorem kcj_77 : (.static yX4_isBelow : Cond) ∈ gT := gT_of (List.mem_append_right _ (List.mem_of_getElem? (i := 179) (by decide +kernel))) (by decide +kernel)
theorem kcj_78 : (.methodLink RX4 41 yX4_needKnown : Cond) ∈ gT := gT_of (List.mem_append_right _ (List.mem_of_getElem? (i := 181) (by decide +kernel))) (by decide +kernel)
theorem kcj_79 : (.static yX4_needKnown : Cond) ∈ gT := gT_of (List.mem_append_right _ (List.mem_of_getElem? (i := 182) (by decide +kernel))) (by decide +kernel)
theorem kcj_80 : (.methodLink RX4 69 yX4_needRoom : Cond) ∈ gT := gT_of (List.mem_append_right _ (List.mem_of_getElem? (i := 290) (by decide +kernel))) (by decide +kernel)
theorem kcj_81 : (.static yX4_needRoom : Cond) ∈ gT := gT_of (List.mem_append_right _ (List.mem_of_getElem? (i := 291) (by decide +kernel))) (by decide +kernel)
theorem kcj_82 : (.methodLink RX4 72 yX2_append : Cond) ∈ gT := gT_of (List.mem_append_right _ (List.mem_of_getElem? (i := 309) (by decide +kernel))) (by decide +kernel)
theorem kcj_83 : (.instanceMethod yX2_append : Cond) ∈ gT := gT_of (List.mem_append_right _ (List.mem_of_getElem? (i := 310) (by decide +kernel))) (by decide +kernel)
theorem kcj_84 : (.selects RX2 yX2_append yX2_append : Cond) ∈ gT := gT_of (List.mem_append_right _ (List.mem_of_getElem? (i := 311) (by decide +kernel))) (by decide +kernel)
theorem kcj_85 : (.initialized RX2 : Cond) ∈ gT := gT_of (List.mem_append_right _ (List.mem_of_getElem? (i := 4) (by decide +kernel))) (by decide +kernel)
theorem kcj_86 : (.methodLink RX4 210 yX0_latestTime : Cond) ∈ gT := gT_of (List.mem_append_right _ (List.mem_of_getElem? (i := 324) (by decide +kernel))) (by decide +kernel)
theorem kcj_87 : (.instanceMethod yX0_latestTime : Cond) ∈ gT := gT_of (List.mem_append_right _ (List.mem_of_getElem? (i := 325) (by decide +kernel))) (by decide +kernel)
theorem kcj_88 : (.selects RX0 yX0_latestTime yX0_latestTime : Cond) ∈ gT := gT_of (List.mem_append_right _ (List.mem_of_getElem? (i := 326) (by decide +kernel))) (by decide +kernel)
theorem kcj_89 : (.initialized RX0 : Cond) ∈ gT := gT_of (List.mem_append_right _ (List.mem_of_getElem? (i := 5) (by decide +kernel))) (by decide +kernel)
theorem kcj_90 : (.methodLink RX4 213 yX0_isHoax : Cond) ∈ gT := gT_of (List.mem_append_right _ (List.mem_of_getElem? (i := 344) (by decide +kernel))) (by decide +kernel)
theorem kcj_91 : (.instanceMethod yX0_isHoax : Cond) ∈ gT := gT_of (List.mem_append_right _ (List.mem_of_getElem? (i := 345) (by decide +kernel))) (by decide +kernel)
theorem kcj_92 : (.selects RX0 yX0_isHoax yX0_isHoax : Cond) ∈ gT := gT_of (List.mem_append_right _ (List.mem_of_getElem? (i := 346) (by decide +kernel))) (by decide +kernel)
theorem kcj_93 : (.methodLink RX4 104 yX4_isInOpenEvent : Cond) ∈ gT := gT_of (List.mem_append_right _ (List.mem_of_getElem? (i := 348) (by decide +kernel))) (by decide +kernel)
theorem kcj_94 : (.instanceMethod yX4_isInOpenEvent : Cond) ∈ gT := gT_of (List.mem_append_right _ (List.mem_of_getElem? (i := 350) (by decide +kernel))) (by decide +kernel)
theorem kcj_95 : (.selects RX4 yX4_isInOpenEvent yX4_isInOpenEvent : Cond) ∈ gT := gT_of (List.mem_append_left _ (by decide +kernel)) (by decide +kernel)
theorem kcj_96 : (.methodLink RX4 235 yX4_canBeReason : Cond) ∈ gT := gT_of (List.mem_append_right _ (List.mem_of_getElem? (i := 340) (by decide +kernel))) (by decide +kernel)
theorem kcj_97 : (.instanceMethod yX4_canBeReason : Cond) ∈ gT := gT_of (List.mem_append_right _ (List.mem_of_getElem? (i := 342) (by decide +kernel))) (by decide +kernel)
theorem kcj_98 : (.selects RX4 yX4_canBeReason yX4_canBeReason : Cond) ∈ gT := gT_of (List.mem_append_left _ (by decide +kernel)) (by decide +kernel)
theorem kcj_99 : (.methodLink RX4 238 yX4_isWithinSpan : Cond) ∈ gT := gT_of (List.mem_append_right _ (List.mem_of_getElem? (i := 352) (by decide +kernel))) (by decide +kernel)
theorem kcj_100 : (.instanceMethod yX4_isWithinSpan : Cond) ∈ gT := gT_of (List.mem_append_right _ (List.mem_of_getElem? (i := 354) (by decide +kernel))) (by decide +kernel)
theorem kcj_101 : (.selects RX4 yX4_isWithinSpan yX4_isWithinSpan : Cond) ∈ gT := gT_of (List.mem_append_left _ (by decide +kernel)) (by decide +kernel)
theorem kcj_102 : (.methodLink RX4 270 yX4_eastOf : Cond) ∈ gT := gT_of (List.mem_append_right _ (List.mem_of_getElem? (i := 388) (by decide +kernel))) (by decide +kernel)
theorem kcj_103 : (.methodLink RX4 273 yX4_northOf : Cond) ∈ gT := gT_of (List.mem_append_right _ (List.mem_of_getElem? (i := 389) (by decide +kernel))) (by decide +kernel)
theorem kcj_104 : (.methodLink RX2 18 yX2_isNearPiece : Cond) ∈ gT := gT_of (List.mem_append_right _ (List.mem_of_getElem? (i := 376) (by decide +kernel))) (by decide +kernel)
theorem kcj_105 : (.static yX2_isNearPiece : Cond) ∈ gT := gT_of (List.mem_append_right _ (List.mem_of_getElem? (i := 377) (by decide +kernel))) (by decide +kernel)
theorem kcj_106 : (.methodLink RX4 251 yX2_isNear : Cond) ∈ gT := gT_of (List.mem_append_right _ (List.mem_of_getElem? (i := 372) (by decide +kernel))) (by decide +kernel)
theorem kcj_107 : (.instanceMethod yX2_isNear : Cond) ∈ gT := gT_of (List.mem_append_right _ (List.mem_of_getElem? (i := 373) (by decide +kernel))) (by decide +kernel)
theorem kcj_108 : (.selects RX2 yX2_isNear yX2_isNear : Cond) ∈ gT := gT_of (List.mem_append_right _ (List.mem_of_getElem? (i := 374) (by decide +kernel))) (by decide +kernel)
theorem kcj_109 : (.methodLink RX4 241 yX1_isWatchedFor : Cond) ∈ gT := gT_of (List.mem_append_right _ (List.mem_of_getElem? (i := 364) (by decide +kernel))) (by decide +kernel)
theorem kcj_110 : (.instanceMethod yX1_isWatchedFor : Cond) ∈ gT := gT_of (List.mem_append_right _ (List.mem_of_getElem? (i := 365) (by decide +kernel))) (by decide +kernel)
theorem kcj_111 : (.selects RX1 yX1_isWatchedFor yX1_isWatchedFor : Cond) ∈ gT := gT_of (List.mem_append_right _ (List.mem_of_getElem? (i := 366) (by decide +kernel))) (by decide +kernel)
theorem kcj_112 : (.initialized RX1 : Cond) ∈ gT := gT_of (List.mem_append_right _ (List.mem_of_getElem? (i := 6) (by decide +kernel))) (by decide +kernel)
theorem kcj_113 : (.methodLink RX4 244 yX4_isOnStretch : Cond) ∈ gT := gT_of (List.mem_append_right _ (List.mem_of_getElem? (i := 368) (by decide +kernel))) (by decide +kernel)
theorem kcj_114 : (.instanceMethod yX4_isOnStretch : Cond) ∈ gT := gT_of (List.mem_append_right _ (List.mem_of_getElem? (i := 370) (by decide +kernel))) (by decide +kernel)
theorem kcj_115 : (.selects RX4 yX4_isOnStretch yX4_isOnStretch : Cond) ∈ gT := gT_of (List.mem_append_left _ (by decide +kernel)) (by decide +kernel)
theorem kcj_116 : (.methodLink RX4 262 yX3_meetsNeed : Cond) ∈ gT := gT_of (List.mem_append_right _ (List.mem_of_getElem? (i := 407) (by decide +kernel))) (by decide +kernel)
theorem kcj_117 : (.instanceMethod yX3_meetsNeed : Cond) ∈ gT := gT_of (List.mem_append_right _ (List.mem_of_getElem? (i := 408) (by decide +kernel))) (by decide +kernel)
theorem kcj_118 : (.selects RX3 yX3_meetsNeed yX3_meetsNeed : Cond) ∈ gT := gT_of (List.mem_append_right _ (List.mem_of_getElem? (i := 409) (by decide +kernel))) (by decide +kernel)
theorem kcj_119 : (.initialized RX3 : Cond) ∈ gT := gT_of (List.mem_append_right _ (List.mem_of_getElem? (i := 2) (by decide +kernel))) (by decide +kernel)
theorem kcj_120 : (.methodLink RX4 258 yX4_squareBetween : Cond) ∈ gT := gT_of (List.mem_append_right _ (List.mem_of_getElem? (i := 411) (by decide +kernel))) (by decide +kernel)
theorem kcj_121 : (.methodLink RX4 157 yX3_weigh : Cond) ∈ gT := gT_of (List.mem_append_right _ (List.mem_of_getElem? (i := 403) (by decide +kernel))) (by decide +kernel)
theorem kcj_122 : (.instanceMethod yX3_weigh : Cond) ∈ gT := gT_of (List.mem_append_right _ (List.mem_of_getElem? (i := 404) (by decide +kernel))) (by decide +kernel)
theorem kcj_123 : (.selects RX3 yX3_weigh yX3_weigh : Cond) ∈ gT := gT_of (List.mem_append_right _ (List.mem_of_getElem? (i := 405) (by decide +kernel))) (by decide +kernel)
theorem kcj_124 : (.methodLink RX4 255 yX4_isCandidate : Cond) ∈ gT := gT_of (List.mem_append_right _ (List.mem_of_getElem? (i := 395) (by decide +kernel))) (by decide +kernel)
theorem kcj_125 : (.instanceMethod yX4_isCandidate : Cond) ∈ gT := gT_of (List.mem_append_right _ (List.mem_of_getElem? (i := 397) (by decide +kernel))) (by decide +kernel)
theorem kcj_126 : (.selects RX4 yX4_isCandidate yX4_isCandidate : Cond) ∈ gT := gT_of (List.mem_append_left _ (by decide +kernel)) (by decide +kernel)
theorem kcj_127 : (.methodLink RX4 167 yX4_agreement : Cond) ∈ gT := gT_of (List.mem_append_right _ (List.mem_of_getElem? (i := 399) (by decide +kernel))) (by decide +kernel)
theorem kcj_128 : (.instanceMethod yX4_agreement : Cond) ∈ gT := gT_of (List.mem_append_right _ (List.mem_of_getElem? (i := 401) (by decide +kernel))) (by decide +kernel)
theorem kcj_129 : (.selects RX4 yX4_agreement yX4_agreement : Cond) ∈ gT := gT_of (List.mem_append_left _ (by decide +kernel)) (by decide +kernel)
theorem kcj_130 : (.methodLink RX4 216 yX4_latestOfLine : Cond) ∈ gT := gT_of (List.mem_append_right _ (List.mem_of_getElem? (i := 336) (by decide +kernel))) (by decide +kernel)
theorem kcj_131 : (.instanceMethod yX4_latestOfLine : Cond) ∈ gT := gT_of (List.mem_append_right _ (List.mem_of_getElem? (i := 338) (by decide +kernel))) (by decide +kernel)
theorem kcj_132 : (.selects RX4 yX4_latestOfLine yX4_latestOfLine : Cond) ∈ gT := gT_of (List.mem_append_left _ (by decide +kernel)) (by decide +kernel)
theorem kcj_133 : (.methodLink RX4 219 yX4_takeReason : Cond) ∈ gT := gT_of (List.mem_append_right _ (List.mem_of_getElem? (i := 356) (by decide +kernel))) (by decide +kernel)
theorem kcj_134 : (.instanceMethod yX4_takeReason : Cond) ∈ gT := gT_of (List.mem_append_right _ (List.mem_of_getElem? (i := 358) (by decide +kernel))) (by decide +kernel)
theorem kcj_135 : (.selects RX4 yX4_takeReason yX4_takeReason : Cond) ∈ gT := gT_of (List.mem_append_left _ (by decide +kernel)) (by decide +kernel)
theorem kcj_136 : (.methodLink RX4 223 yX4_firstOnStretch : Cond) ∈ gT := gT_of (List.mem_append_right _ (List.mem_of_getElem? (i := 360) (by decide +kernel))) (by decide +kernel)
theorem kcj_137 : (.instanceMethod yX4_firstOnStretch : Cond) ∈ gT := gT_of (List.mem_append_right _ (List.mem_of_getElem? (i := 362) (by decide +kernel))) (by decide +kernel)
theorem kcj_138 : (.selects RX4 yX4_firstOnStretch yX4_firstOnStretch : Cond) ∈ gT := gT_of (List.mem_append_left _ (by decide +kernel)) (by decide +kernel)
theorem kcj_139 : (.methodLink RX4 226 yX4_nearestByPlace : Cond) ∈ gT := gT_of (List.mem_append_right _ (List.mem_of_getElem? (i := 391) (by decide +kernel))) (by decide +kernel)
theorem kcj_140 : (.instanceMethod yX4_nearestByPlace : Cond) ∈ gT := gT_of (List.mem_append_right _ (List.mem_of_getElem? (i := 393) (by decide +kernel))) (by decide +kernel)
theorem kcj_141 : (.selects RX4 yX4_nearestByPlace yX4_nearestByPlace : Cond) ∈ gT := gT_of (List.mem_append_left _ (by decide +kernel)) (by decide +kernel)
theorem kcj_142 : (.methodLink RX4 229 yX4_greatestShare : Cond) ∈ gT := gT_of (List.mem_append_right _ (List.mem_of_getElem? (i := 413) (by decide +kernel))) (by decide +kernel)
theorem kcj_143 : (.instanceMethod yX4_greatestShare : Cond) ∈ gT := gT_of (List.mem_append_right _ (List.mem_of_getElem? (i := 415) (by decide +kernel))) (by decide +kernel)
theorem kcj_144 : (.selects RX4 yX4_greatestShare yX4_greatestShare : Cond) ∈ gT := gT_of (List.mem_append_left _ (by decide +kernel)) (by decide +kernel)
theorem kcj_145 : (.methodLink RX4 83 yX0_draft : Cond) ∈ gT := gT_of (List.mem_append_right _ (List.mem_of_getElem? (i := 328) (by decide +kernel))) (by decide +kernel)
theorem kcj_146 : (.instanceMethod yX0_draft : Cond) ∈ gT := gT_of (List.mem_append_right _ (List.mem_of_getElem? (i := 329) (by decide +kernel))) (by decide +kernel)
theorem kcj_147 : (.selects RX0 yX0_draft yX0_draft : Cond) ∈ gT := gT_of (List.mem_append_right _ (List.mem_of_getElem? (i := 330) (by decide +kernel))) (by decide +kernel)
theorem kcj_148 : (.methodLink RX4 87 yX4_seekReason : Cond) ∈ gT := gT_of (List.mem_append_right _ (List.mem_of_getElem? (i := 332) (by decide +kernel))) (by decide +kernel)
theorem kcj_149 : (.instanceMethod yX4_seekReason : Cond) ∈ gT := gT_of (List.mem_append_right _ (List.mem_of_getElem? (i := 334) (by decide +kernel))) (by decide +kernel)
theorem kcj_150 : (.selects RX4 yX4_seekReason yX4_seekReason : Cond) ∈ gT := gT_of (List.mem_append_left _ (by decide +kernel)) (by decide +kernel)
theorem kcj_151 : (.methodLink RX4 98 yX1_begin : Cond) ∈ gT := gT_of (List.mem_append_right _ (List.mem_of_getElem? (i := 417) (by decide +kernel))) (by decide +kernel)
theorem kcj_152 : (.instanceMethod yX1_begin : Cond) ∈ gT := gT_of (List.mem_append_right _ (List.mem_of_getElem? (i := 418) (by decide +kernel))) (by decide +kernel)
theorem kcj_153 : (.selects RX1 yX1_begin yX1_begin : Cond) ∈ gT := gT_of (List.mem_append_right _ (List.mem_of_getElem? (i := 419) (by decide +kernel))) (by decide +kernel)
theorem kcj_154 : (.methodLink RX4 76 yX4_needCallData : Cond) ∈ gT := gT_of (List.mem_append_right _ (List.mem_of_getElem? (i := 320) (by decide +kernel))) (by decide +kernel)
theorem kcj_155 : (.instanceMethod yX4_needCallData : Cond) ∈ gT := gT_of (List.mem_append_right _ (List.mem_of_getElem? (i := 322) (by decide +kernel))) (by decide +kernel)
theorem kcj_156 : (.selects RX4 yX4_needCallData yX4_needCallData : Cond) ∈ gT := gT_of (List.mem_append_left _ (by decide +kernel)) (by decide +kernel)
theorem kcj_157 : (.methodLink RX0 46 yX0_isUnder : Cond) ∈ gT := gT_of (List.mem_append_right _ (List.mem_of_getElem? (i := 466) (by decide +kernel))) (by decide +kernel)
theorem kcj_158 : (.instanceMethod yX0_isUnder : Cond) ∈ gT := gT_of (List.mem_append_right _ (List.mem_of_getElem? (i := 468) (by decide +kernel))) (by decide +kernel)
theorem kcj_159 : (.selects RX0 yX0_isUnder yX0_isUnder : Cond) ∈ gT := gT_of (List.mem_append_left _ (by decide +kernel)) (by decide +kernel)
theorem kcj_160 : (.methodLink RX4 108 yX4_needState : Cond) ∈ gT := gT_of (List.mem_append_right _ (List.mem_of_getElem? (i := 443) (by decide +kernel))) (by decide +kernel)
theorem kcj_161 : (.static yX4_needState : Cond) ∈ gT := gT_of (List.mem_append_right _ (List.mem_of_getElem? (i := 444) (by decide +kernel))) (by decide +kernel)
theorem kcj_162 : (.methodLink RX4 114 yX0_moveBranch : Cond) ∈ gT := gT_of (List.mem_append_right _ (List.mem_of_getElem? (i := 462) (by decide +kernel))) (by decide +kernel)
theorem kcj_163 : (.instanceMethod yX0_moveBranch : Cond) ∈ gT := gT_of (List.mem_append_right _ (List.mem_of_getElem? (i := 463) (by decide +kernel))) (by decide +kernel)
theorem kcj_164 : (.selects RX0 yX0_moveBranch yX0_moveBranch : Cond) ∈ gT := gT_of (List.mem_append_right _ (List.mem_of_getElem? (i := 464) (by decide +kernel))) (by decide +kernel)
theorem kcj_165 : (.methodLink RX4 127 yX0_moveAll : Cond) ∈ gT := gT_of (List.mem_append_right _ (List.mem_of_getElem? (i := 477) (by decide +kernel))) (by decide +kernel)
theorem kcj_166 : (.instanceMethod yX0_moveAll : Cond) ∈ gT := gT_of (List.mem_append_right _ (List.mem_of_getElem? (i := 478) (by decide +kernel))) (by decide +kernel)
theorem kcj_167 : (.selects RX0 yX0_moveAll yX0_moveAll : Cond) ∈ gT := gT_of (List.mem_append_right _ (List.mem_of_getElem? (i := 479) (by decide +kernel))) (by decide +kernel)
theorem kcj_168 : (.methodLink RX4 130 yX0_countIn : Cond) ∈ gT := gT_of (List.mem_append_right _ (List.mem_of_getElem? (i := 481) (by decide +kernel))) (by decide +kernel)
theorem kcj_169 : (.instanceMethod yX0_countIn : Cond) ∈ gT := gT_of (List.mem_append_right _ (List.mem_of_getElem? (i := 482) (by decide +kernel))) (by decide +kernel)
theorem kcj_170 : (.selects RX0 yX0_countIn yX0_countIn : Cond) ∈ gT := gT_of (List.mem_append_right _ (List.mem_of_getElem? (i := 483) (by decide +kernel))) (by decide +kernel)
theorem kcj_171 : (.methodLink RX4 151 yX4_needTwoCalls : Cond) ∈ gT := gT_of (List.mem_append_right _ (List.mem_of_getElem? (i := 513) (by decide +kernel))) (by decide +kernel)
theorem kcj_172 : (.instanceMethod yX4_needTwoCalls : Cond) ∈ gT := gT_of (List.mem_append_right _ (List.mem_of_getElem? (i := 515) (by decide +kernel))) (by decide +kernel)
theorem kcj_173 : (.selects RX4 yX4_needTwoCalls yX4_needTwoCalls : Cond) ∈ gT := gT_of (List.mem_append_left _ (by decide +kernel)) (by decide +kernel)
theorem kcj_174 : (.methodLink RX0 50 yX0_isHoax : Cond) ∈ gT := gT_of (List.mem_append_right _ (List.mem_of_getElem? (i := 558) (by decide +kernel))) (by decide +kernel)
theorem kcj_175 : (.methodLink RX0 54 yX0_weighCall : Cond) ∈ gT := gT_of (List.mem_append_right _ (List.mem_of_getElem? (i := 559) (by decide +kernel))) (by decide +kernel)
theorem kcj_176 : (.instanceMethod yX0_weighCall : Cond) ∈ gT := gT_of (List.mem_append_right _ (List.mem_of_getElem? (i := 561) (by decide +kernel))) (by decide +kernel)
theorem kcj_177 : (.selects RX0 yX0_weighCall yX0_weighCall : Cond) ∈ gT := gT_of (List.mem_append_left _ (by decide +kernel)) (by decide +kernel)
theorem kcj_178 : (.methodLink RX4 171 yX0_weighEvent : Cond) ∈ gT := gT_of (List.mem_append_right _ (List.mem_of_getElem? (i := 554) (by decide +kernel))) (by decide +kernel)
theorem kcj_179 : (.instanceMethod yX0_weighEvent : Cond) ∈ gT := gT_of (List.mem_append_right _ (List.mem_of_getElem? (i := 555) (by decide +kernel))) (by decide +kernel)
theorem kcj_180 : (.selects RX0 yX0_weighEvent yX0_weighEvent : Cond) ∈ gT := gT_of (List.mem_append_right _ (List.mem_of_getElem? (i := 556) (by decide +kernel))) (by decide +kernel)
theorem kcj_181 : (.methodLink RX4 174 yX0_pointOf : Cond) ∈ gT := gT_of (List.mem_append_right _ (List.mem_of_getElem? (i := 563) (by decide +kernel))) (by decide +kernel)
theorem kcj_182 : (.instanceMethod yX0_pointOf : Cond) ∈ gT := gT_of (List.mem_append_right _ (List.mem_of_getElem? (i := 564) (by decide +kernel))) (by decide +kernel)
theorem kcj_183 : (.selects RX0 yX0_pointOf yX0_pointOf : Cond) ∈ gT := gT_of (List.mem_append_right _ (List.mem_of_getElem? (i := 565) (by decide +kernel))) (by decide +kernel)
theorem kcj_184 : (.methodLink RX4 177 yX0_latestTimeOf : Cond) ∈ gT := gT_of (List.mem_append_right _ (List.mem_of_getElem? (i := 567) (by decide +kernel))) (by decide +kernel)
theorem kcj_185 : (.instanceMethod yX0_latestTimeOf : Cond) ∈ gT := gT_of (List.mem_append_right _ (List.mem_of_getElem? (i := 568) (by decide +kernel))) (by decide +kernel)
theorem kcj_186 : (.selects RX0 yX0_latestTimeOf yX0_latestTimeOf : Cond) ∈ gT := gT_of (List.mem_append_right _ (List.mem_of_getElem? (i := 569) (by decide +kernel))) (by decide +kernel)
theorem kcj_187 : (.methodLink RX4 180 yX0_memberOf : Cond) ∈ gT := gT_of (List.mem_append_right _ (List.mem_of_getElem? (i := 578) (by decide +kernel))) (by decide +kernel)
theorem kcj_188 : (.instanceMethod yX0_memberOf : Cond) ∈ gT := gT_of (List.mem_append_right _ (List.mem_of_getElem? (i := 579) (by decide +kernel))) (by decide +kernel)
theorem kcj_189 : (.selects RX0 yX0_memberOf yX0_memberOf : Cond) ∈ gT := gT_of (List.mem_append_right _ (List.mem_of_getElem? (i := 580) (by decide +kernel))) (by decide +kernel)
theorem kcj_190 : (.methodLink RX4 183 yX1_countOpen : Cond) ∈ gT := gT_of (List.mem_append_right _ (List.mem_of_getElem? (i := 589) (by decide +kernel))) (by decide +kernel)
theorem kcj_191 : (.instanceMethod yX1_countOpen : Cond) ∈ gT := gT_of (List.mem_append_right _ (List.mem_of_getElem? (i := 590) (by decide +kernel))) (by decide +kernel)
theorem kcj_192 : (.selects RX1 yX1_countOpen yX1_countOpen : Cond) ∈ gT := gT_of (List.mem_append_right _ (List.mem_of_getElem? (i := 591) (by decide +kernel))) (by decide +kernel)
theorem kcj_193 : (.methodLink RX4 187 yX0_countHoaxes : Cond) ∈ gT := gT_of (List.mem_append_right _ (List.mem_of_getElem? (i := 593) (by decide +kernel))) (by decide +kernel)
theorem kcj_194 : (.instanceMethod yX0_countHoaxes : Cond) ∈ gT := gT_of (List.mem_append_right _ (List.mem_of_getElem? (i := 594) (by decide +kernel))) (by decide +kernel)
theorem kcj_195 : (.selects RX0 yX0_countHoaxes yX0_countHoaxes : Cond) ∈ gT := gT_of (List.mem_append_right _ (List.mem_of_getElem? (i := 595) (by decide +kernel))) (by decide +kernel)
theorem kmd_0 : (.fieldLink RX6 70 "CallJoinModel" "thrown" "I" : Cond) ∈ gT := gT_of (List.mem_append_right _ (List.mem_of_getElem? (i := 603) (by decide +kernel))) (by decide +kernel)
theorem kmd_1 : (.fieldLink RX6 78 "CallJoinModel" "calls" "I" : Cond) ∈ gT := gT_of (List.mem_append_right _ (List.mem_of_getElem? (i := 611) (by decide +kernel))) (by decide +kernel)
theorem kmd_2 : (.fieldLink RX6 81 "CallJoinModel" "events" "I" : Cond) ∈ gT := gT_of (List.mem_append_right _ (List.mem_of_getElem? (i := 612) (by decide +kernel))) (by decide +kernel)
theorem kmd_3 : (.constant RX6 84 (99999999 : Int32) : Cond) ∈ gT := gT_of (List.mem_append_right _ (List.mem_of_getElem? (i := 709) (by decide +kernel))) (by decide +kernel)
theorem kmd_4 : (.fieldLink RX6 7 "CallJoinModel" "distance" "[I" : Cond) ∈ gT := gT_of (List.mem_append_right _ (List.mem_of_getElem? (i := 604) (by decide +kernel))) (by decide +kernel)
theorem kmd_5 : (.fieldLink RX6 13 "CallJoinModel" "span" "[I" : Cond) ∈ gT := gT_of (List.mem_append_right _ (List.mem_of_getElem? (i := 605) (by decide +kernel))) (by decide +kernel)
theorem kmd_6 : (.fieldLink RX6 16 "CallJoinModel" "over" "[I" : Cond) ∈ gT := gT_of (List.mem_append_right _ (List.mem_of_getElem? (i := 606) (by decide +kernel))) (by decide +kernel)
theorem kmd_7 : (.fieldLink RX6 19 "CallJoinModel" "under" "[I" : Cond) ∈ gT := gT_of (List.mem_append_right _ (List.mem_of_getElem? (i := 607) (by decide +kernel))) (by decide +kernel)
theorem kmd_8 : (.constant RX6 85 (100000 : Int32) : Cond) ∈ gT := gT_of (List.mem_append_right _ (List.mem_of_getElem? (i := 687) (by decide +kernel))) (by decide +kernel)
theorem kmd_9 : (.fieldLink RX6 22 "CallJoinModel" "weights" "[I" : Cond) ∈ gT := gT_of (List.mem_append_right _ (List.mem_of_getElem? (i := 608) (by decide +kernel))) (by decide +kernel)
theorem kmd_10 : (.fieldLink RX6 25 "CallJoinModel" "pointCount" "[I" : Cond) ∈ gT := gT_of (List.mem_append_right _ (List.mem_of_getElem? (i := 609) (by decide +kernel))) (by decide +kernel)
theorem kmd_11 : (.fieldLink RX6 28 "CallJoinModel" "points" "[I" : Cond) ∈ gT := gT_of (List.mem_append_right _ (List.mem_of_getElem? (i := 610) (by decide +kernel))) (by decide +kernel)
theorem kmd_12 : (.fieldLink RX6 37 "CallJoinModel" "pointOf" "[I" : Cond) ∈ gT := gT_of (List.mem_append_right _ (List.mem_of_getElem? (i := 615) (by decide +kernel))) (by decide +kernel)
theorem kmd_13 : (.constantLong RX6 111 (4 : Int64) : Cond) ∈ gT := gT_of (List.mem_append_right _ (List.mem_of_getElem? (i := 772) (by decide +kernel))) (by decide +kernel)
theorem kmd_14 : (.fieldLink RX6 40 "CallJoinModel" "wordsOf" "[I" : Cond) ∈ gT := gT_of (List.mem_append_right _ (List.mem_of_getElem? (i := 616) (by decide +kernel))) (by decide +kernel)
theorem kmd_15 : (.fieldLink RX6 43 "CallJoinModel" "timeOf" "[I" : Cond) ∈ gT := gT_of (List.mem_append_right _ (List.mem_of_getElem? (i := 617) (by decide +kernel))) (by decide +kernel)
theorem kmd_16 : (.fieldLink RX6 58 "CallJoinModel" "stateOf" "[I" : Cond) ∈ gT := gT_of (List.mem_append_right _ (List.mem_of_getElem? (i := 622) (by decide +kernel))) (by decide +kernel)
theorem kmd_17 : (.fieldLink RX6 46 "CallJoinModel" "eventOf" "[I" : Cond) ∈ gT := gT_of (List.mem_append_right _ (List.mem_of_getElem? (i := 618) (by decide +kernel))) (by decide +kernel)
theorem kmd_18 : (.fieldLink RX6 52 "CallJoinModel" "marksOf" "[I" : Cond) ∈ gT := gT_of (List.mem_append_right _ (List.mem_of_getElem? (i := 620) (by decide +kernel))) (by decide +kernel)
theorem kmd_19 : (.fieldLink RX6 49 "CallJoinModel" "reasonOf" "[I" : Cond) ∈ gT := gT_of (List.mem_append_right _ (List.mem_of_getElem? (i := 619) (by decide +kernel))) (by decide +kernel)
theorem kmd_20 : (.constantLong RX6 113 (2500 : Int64) : Cond) ∈ gT := gT_of (List.mem_append_right _ (List.mem_of_getElem? (i := 752) (by decide +kernel))) (by decide +kernel)
theorem kmd_21 : (.fieldLink RX6 64 "CallJoinModel" "watchedFrom" "[I" : Cond) ∈ gT := gT_of (List.mem_append_right _ (List.mem_of_getElem? (i := 624) (by decide +kernel))) (by decide +kernel)
theorem kmd_22 : (.fieldLink RX6 67 "CallJoinModel" "watchedTo" "[I" : Cond) ∈ gT := gT_of (List.mem_append_right _ (List.mem_of_getElem? (i := 625) (by decide +kernel))) (by decide +kernel)
theorem kmd_23 : (.fieldLink RX6 61 "CallJoinModel" "watched" "[I" : Cond) ∈ gT := gT_of (List.mem_append_right _ (List.mem_of_getElem? (i := 623) (by decide +kernel))) (by decide +kernel)
theorem kmd_24 : (.fieldLink RX6 31 "CallJoinModel" "lineOf" "[I" : Cond) ∈ gT := gT_of (List.mem_append_right _ (List.mem_of_getElem? (i := 613) (by decide +kernel))) (by decide +kernel)
theorem kmd_25 : (.fieldLink RX6 34 "CallJoinModel" "kindOf" "[I" : Cond) ∈ gT := gT_of (List.mem_append_right _ (List.mem_of_getElem? (i := 614) (by decide +kernel))) (by decide +kernel)
theorem kmd_26 : (.fieldLink RX6 139 "CallJoinModel" "how" "I" : Cond) ∈ gT := gT_of (List.mem_append_right _ (List.mem_of_getElem? (i := 626) (by decide +kernel))) (by decide +kernel)
theorem kmd_27 : (.fieldLink RX6 55 "CallJoinModel" "howOf" "[I" : Cond) ∈ gT := gT_of (List.mem_append_right _ (List.mem_of_getElem? (i := 621) (by decide +kernel))) (by decide +kernel)
theorem kmd_28 : (.methodLink RX6 74 yX6_in : Cond) ∈ gT := gT_of (List.mem_append_right _ (List.mem_of_getElem? (i := 684) (by decide +kernel))) (by decide +kernel)
theorem kmd_29 : (.static yX6_in : Cond) ∈ gT := gT_of (List.mem_append_right _ (List.mem_of_getElem? (i := 685) (by decide +kernel))) (by decide +kernel)
theorem kmd_30 : (.initialized RX6 : Cond) ∈ gT := gT_of (List.mem_append_right _ (List.mem_of_getElem? (i := 7) (by decide +kernel))) (by decide +kernel)
theorem kmd_31 : (.methodLink RX6 86 yX6_isKind : Cond) ∈ gT := gT_of (List.mem_append_right _ (List.mem_of_getElem? (i := 688) (by decide +kernel))) (by decide +kernel)
theorem kmd_32 : (.static yX6_isKind : Cond) ∈ gT := gT_of (List.mem_append_right _ (List.mem_of_getElem? (i := 689) (by decide +kernel))) (by decide +kernel)
theorem kmd_33 : (.methodLink RX6 90 yX6_throwing : Cond) ∈ gT := gT_of (List.mem_append_right _ (List.mem_of_getElem? (i := 691) (by decide +kernel))) (by decide +kernel)
theorem kmd_34 : (.instanceMethod yX6_throwing : Cond) ∈ gT := gT_of (List.mem_append_right _ (List.mem_of_getElem? (i := 693) (by decide +kernel))) (by decide +kernel)
theorem kmd_35 : (.selects RX6 yX6_throwing yX6_throwing : Cond) ∈ gT := gT_of (List.mem_append_left _ (by decide +kernel)) (by decide +kernel)
theorem kmd_36 : (.methodLink RX6 97 yX6_isPoint : Cond) ∈ gT := gT_of (List.mem_append_right _ (List.mem_of_getElem? (i := 706) (by decide +kernel))) (by decide +kernel)
theorem kmd_37 : (.static yX6_isPoint : Cond) ∈ gT := gT_of (List.mem_append_right _ (List.mem_of_getElem? (i := 707) (by decide +kernel))) (by decide +kernel)
theorem kmd_38 : (.methodLink RX6 94 yX6_isRoad : Cond) ∈ gT := gT_of (List.mem_append_right _ (List.mem_of_getElem? (i := 703) (by decide +kernel))) (by decide +kernel)
theorem kmd_39 : (.static yX6_isRoad : Cond) ∈ gT := gT_of (List.mem_append_right _ (List.mem_of_getElem? (i := 704) (by decide +kernel))) (by decide +kernel)
theorem kmd_40 : (.methodLink RX6 100 yX6_sum : Cond) ∈ gT := gT_of (List.mem_append_right _ (List.mem_of_getElem? (i := 764) (by decide +kernel))) (by decide +kernel)
theorem kmd_41 : (.instanceMethod yX6_sum : Cond) ∈ gT := gT_of (List.mem_append_right _ (List.mem_of_getElem? (i := 766) (by decide +kernel))) (by decide +kernel)
theorem kmd_42 : (.selects RX6 yX6_sum yX6_sum : Cond) ∈ gT := gT_of (List.mem_append_left _ (by decide +kernel)) (by decide +kernel)
theorem kmd_43 : (.methodLink RX6 104 yX6_squareOf : Cond) ∈ gT := gT_of (List.mem_append_right _ (List.mem_of_getElem? (i := 753) (by decide +kernel))) (by decide +kernel)
theorem kmd_44 : (.static yX6_squareOf : Cond) ∈ gT := gT_of (List.mem_append_right _ (List.mem_of_getElem? (i := 754) (by decide +kernel))) (by decide +kernel)
theorem kmd_45 : (.methodLink RX6 108 yX6_isEnough : Cond) ∈ gT := gT_of (List.mem_append_right _ (List.mem_of_getElem? (i := 768) (by decide +kernel))) (by decide +kernel)
theorem kmd_46 : (.instanceMethod yX6_isEnough : Cond) ∈ gT := gT_of (List.mem_append_right _ (List.mem_of_getElem? (i := 770) (by decide +kernel))) (by decide +kernel)
theorem kmd_47 : (.selects RX6 yX6_isEnough yX6_isEnough : Cond) ∈ gT := gT_of (List.mem_append_left _ (by decide +kernel)) (by decide +kernel)
theorem kmd_48 : (.methodLink RX6 115 yX6_isBeside : Cond) ∈ gT := gT_of (List.mem_append_right _ (List.mem_of_getElem? (i := 749) (by decide +kernel))) (by decide +kernel)
theorem kmd_49 : (.static yX6_isBeside : Cond) ∈ gT := gT_of (List.mem_append_right _ (List.mem_of_getElem? (i := 750) (by decide +kernel))) (by decide +kernel)
theorem kmd_50 : (.methodLink RX6 118 yX6_isOpen : Cond) ∈ gT := gT_of (List.mem_append_right _ (List.mem_of_getElem? (i := 729) (by decide +kernel))) (by decide +kernel)
theorem kmd_51 : (.instanceMethod yX6_isOpen : Cond) ∈ gT := gT_of (List.mem_append_right _ (List.mem_of_getElem? (i := 731) (by decide +kernel))) (by decide +kernel)
theorem kmd_52 : (.selects RX6 yX6_isOpen yX6_isOpen : Cond) ∈ gT := gT_of (List.mem_append_left _ (by decide +kernel)) (by decide +kernel)
theorem kmd_53 : (.methodLink RX6 121 yX6_isHoax : Cond) ∈ gT := gT_of (List.mem_append_right _ (List.mem_of_getElem? (i := 733) (by decide +kernel))) (by decide +kernel)
theorem kmd_54 : (.instanceMethod yX6_isHoax : Cond) ∈ gT := gT_of (List.mem_append_right _ (List.mem_of_getElem? (i := 735) (by decide +kernel))) (by decide +kernel)
theorem kmd_55 : (.selects RX6 yX6_isHoax yX6_isHoax : Cond) ∈ gT := gT_of (List.mem_append_left _ (by decide +kernel)) (by decide +kernel)
theorem kmd_56 : (.methodLink RX6 128 yX6_isOn : Cond) ∈ gT := gT_of (List.mem_append_right _ (List.mem_of_getElem? (i := 745) (by decide +kernel))) (by decide +kernel)
theorem kmd_57 : (.instanceMethod yX6_isOn : Cond) ∈ gT := gT_of (List.mem_append_right _ (List.mem_of_getElem? (i := 747) (by decide +kernel))) (by decide +kernel)
theorem kmd_58 : (.selects RX6 yX6_isOn yX6_isOn : Cond) ∈ gT := gT_of (List.mem_append_left _ (by decide +kernel)) (by decide +kernel)
theorem kmd_59 : (.methodLink RX6 124 yX6_firstOf : Cond) ∈ gT := gT_of (List.mem_append_right _ (List.mem_of_getElem? (i := 741) (by decide +kernel))) (by decide +kernel)
theorem kmd_60 : (.instanceMethod yX6_firstOf : Cond) ∈ gT := gT_of (List.mem_append_right _ (List.mem_of_getElem? (i := 743) (by decide +kernel))) (by decide +kernel)
theorem kmd_61 : (.selects RX6 yX6_firstOf yX6_firstOf : Cond) ∈ gT := gT_of (List.mem_append_left _ (by decide +kernel)) (by decide +kernel)
theorem kmd_62 : (.methodLink RX6 135 yX6_isBetter : Cond) ∈ gT := gT_of (List.mem_append_right _ (List.mem_of_getElem? (i := 773) (by decide +kernel))) (by decide +kernel)
theorem kmd_63 : (.instanceMethod yX6_isBetter : Cond) ∈ gT := gT_of (List.mem_append_right _ (List.mem_of_getElem? (i := 775) (by decide +kernel))) (by decide +kernel)
theorem kmd_64 : (.selects RX6 yX6_isBetter yX6_isBetter : Cond) ∈ gT := gT_of (List.mem_append_left _ (by decide +kernel)) (by decide +kernel)
theorem kmd_65 : (.methodLink RX6 131 yX6_meets : Cond) ∈ gT := gT_of (List.mem_append_right _ (List.mem_of_getElem? (i := 760) (by decide +kernel))) (by decide +kernel)
theorem kmd_66 : (.instanceMethod yX6_meets : Cond) ∈ gT := gT_of (List.mem_append_right _ (List.mem_of_getElem? (i := 762) (by decide +kernel))) (by decide +kernel)
theorem kmd_67 : (.selects RX6 yX6_meets yX6_meets : Cond) ∈ gT := gT_of (List.mem_append_left _ (by decide +kernel)) (by decide +kernel)
theorem kmd_68 : (.methodLink RX6 142 yX6_again : Cond) ∈ gT := gT_of (List.mem_append_right _ (List.mem_of_getElem? (i := 725) (by decide +kernel))) (by decide +kernel)
theorem kmd_69 : (.instanceMethod yX6_again : Cond) ∈ gT := gT_of (List.mem_append_right _ (List.mem_of_getElem? (i := 727) (by decide +kernel))) (by decide +kernel)
theorem kmd_70 : (.selects RX6 yX6_again yX6_again : Cond) ∈ gT := gT_of (List.mem_append_left _ (by decide +kernel)) (by decide +kernel)
theorem kmd_71 : (.methodLink RX6 146 yX6_onStretch : Cond) ∈ gT := gT_of (List.mem_append_right _ (List.mem_of_getElem? (i := 737) (by decide +kernel))) (by decide +kernel)
theorem kmd_72 : (.instanceMethod yX6_onStretch : Cond) ∈ gT := gT_of (List.mem_append_right _ (List.mem_of_getElem? (i := 739) (by decide +kernel))) (by decide +kernel)
theorem kmd_73 : (.selects RX6 yX6_onStretch yX6_onStretch : Cond) ∈ gT := gT_of (List.mem_append_left _ (by decide +kernel)) (by decide +kernel)
theorem kmd_74 : (.methodLink RX6 149 yX6_agreeing : Cond) ∈ gT := gT_of (List.mem_append_right _ (List.mem_of_getElem? (i := 756) (by decide +kernel))) (by decide +kernel)
theorem kmd_75 : (.instanceMethod yX6_agreeing : Cond) ∈ gT := gT_of (List.mem_append_right _ (List.mem_of_getElem? (i := 758) (by decide +kernel))) (by decide +kernel)
theorem kmd_76 : (.selects RX6 yX6_agreeing yX6_agreeing : Cond) ∈ gT := gT_of (List.mem_append_left _ (by decide +kernel)) (by decide +kernel)
theorem kmd_77 : (.methodLink RX6 156 yX6_isRange : Cond) ∈ gT := gT_of (List.mem_append_right _ (List.mem_of_getElem? (i := 717) (by decide +kernel))) (by decide +kernel)
theorem kmd_78 : (.instanceMethod yX6_isRange : Cond) ∈ gT := gT_of (List.mem_append_right _ (List.mem_of_getElem? (i := 719) (by decide +kernel))) (by decide +kernel)
theorem kmd_79 : (.selects RX6 yX6_isRange yX6_isRange : Cond) ∈ gT := gT_of (List.mem_append_left _ (by decide +kernel)) (by decide +kernel)
theorem kmd_80 : (.methodLink RX6 159 yX6_reason : Cond) ∈ gT := gT_of (List.mem_append_right _ (List.mem_of_getElem? (i := 721) (by decide +kernel))) (by decide +kernel)
theorem kmd_81 : (.instanceMethod yX6_reason : Cond) ∈ gT := gT_of (List.mem_append_right _ (List.mem_of_getElem? (i := 723) (by decide +kernel))) (by decide +kernel)
theorem kmd_82 : (.selects RX6 yX6_reason yX6_reason : Cond) ∈ gT := gT_of (List.mem_append_left _ (by decide +kernel)) (by decide +kernel)
theorem kmd_83 : (.methodLink RX6 163 yX6_newEvent : Cond) ∈ gT := gT_of (List.mem_append_right _ (List.mem_of_getElem? (i := 777) (by decide +kernel))) (by decide +kernel)
theorem kmd_84 : (.instanceMethod yX6_newEvent : Cond) ∈ gT := gT_of (List.mem_append_right _ (List.mem_of_getElem? (i := 779) (by decide +kernel))) (by decide +kernel)
theorem kmd_85 : (.selects RX6 yX6_newEvent yX6_newEvent : Cond) ∈ gT := gT_of (List.mem_append_left _ (by decide +kernel)) (by decide +kernel)
theorem kmd_86 : (.methodLink RX6 152 yX6_isKnown : Cond) ∈ gT := gT_of (List.mem_append_right _ (List.mem_of_getElem? (i := 714) (by decide +kernel))) (by decide +kernel)
theorem kmd_87 : (.static yX6_isKnown : Cond) ∈ gT := gT_of (List.mem_append_right _ (List.mem_of_getElem? (i := 715) (by decide +kernel))) (by decide +kernel)
theorem kmd_88 : (.methodLink RX6 167 yX6_isCall : Cond) ∈ gT := gT_of (List.mem_append_right _ (List.mem_of_getElem? (i := 789) (by decide +kernel))) (by decide +kernel)
theorem kmd_89 : (.instanceMethod yX6_isCall : Cond) ∈ gT := gT_of (List.mem_append_right _ (List.mem_of_getElem? (i := 791) (by decide +kernel))) (by decide +kernel)
theorem kmd_90 : (.selects RX6 yX6_isCall yX6_isCall : Cond) ∈ gT := gT_of (List.mem_append_left _ (by decide +kernel)) (by decide +kernel)
theorem kmd_91 : (.methodLink RX6 173 yX6_size : Cond) ∈ gT := gT_of (List.mem_append_right _ (List.mem_of_getElem? (i := 805) (by decide +kernel))) (by decide +kernel)
theorem kmd_92 : (.instanceMethod yX6_size : Cond) ∈ gT := gT_of (List.mem_append_right _ (List.mem_of_getElem? (i := 807) (by decide +kernel))) (by decide +kernel)
theorem kmd_93 : (.selects RX6 yX6_size yX6_size : Cond) ∈ gT := gT_of (List.mem_append_left _ (by decide +kernel)) (by decide +kernel)
theorem kmd_94 : (.methodLink RX6 170 yX6_isEvent : Cond) ∈ gT := gT_of (List.mem_append_right _ (List.mem_of_getElem? (i := 801) (by decide +kernel))) (by decide +kernel)
theorem kmd_95 : (.instanceMethod yX6_isEvent : Cond) ∈ gT := gT_of (List.mem_append_right _ (List.mem_of_getElem? (i := 803) (by decide +kernel))) (by decide +kernel)
theorem kmd_96 : (.selects RX6 yX6_isEvent yX6_isEvent : Cond) ∈ gT := gT_of (List.mem_append_left _ (by decide +kernel)) (by decide +kernel)
theorem kmd_97 : (.methodLink RX6 176 yX6_weightOf : Cond) ∈ gT := gT_of (List.mem_append_right _ (List.mem_of_getElem? (i := 833) (by decide +kernel))) (by decide +kernel)
theorem kmd_98 : (.instanceMethod yX6_weightOf : Cond) ∈ gT := gT_of (List.mem_append_right _ (List.mem_of_getElem? (i := 835) (by decide +kernel))) (by decide +kernel)
theorem kmd_99 : (.selects RX6 yX6_weightOf yX6_weightOf : Cond) ∈ gT := gT_of (List.mem_append_left _ (by decide +kernel)) (by decide +kernel)
theorem kmd_100 : (.methodLink RX6 179 yX6_placeOf : Cond) ∈ gT := gT_of (List.mem_append_right _ (List.mem_of_getElem? (i := 837) (by decide +kernel))) (by decide +kernel)
theorem kmd_101 : (.instanceMethod yX6_placeOf : Cond) ∈ gT := gT_of (List.mem_append_right _ (List.mem_of_getElem? (i := 839) (by decide +kernel))) (by decide +kernel)
theorem kmd_102 : (.selects RX6 yX6_placeOf yX6_placeOf : Cond) ∈ gT := gT_of (List.mem_append_left _ (by decide +kernel)) (by decide +kernel)
theorem kmd_103 : (.methodLink RX6 182 yX6_latestOf : Cond) ∈ gT := gT_of (List.mem_append_right _ (List.mem_of_getElem? (i := 841) (by decide +kernel))) (by decide +kernel)
theorem kmd_104 : (.instanceMethod yX6_latestOf : Cond) ∈ gT := gT_of (List.mem_append_right _ (List.mem_of_getElem? (i := 843) (by decide +kernel))) (by decide +kernel)
theorem kmd_105 : (.selects RX6 yX6_latestOf yX6_latestOf : Cond) ∈ gT := gT_of (List.mem_append_left _ (by decide +kernel)) (by decide +kernel)
end
section
def rmX4_isBelow : Room := { frames := 0, cells := 0, slots := 0, locals := 0 }
abbrev wxX4_isBelow : List Cond := .code yX4_isBelow cX4_isBelow 2 (some .boolean) :: gT
theorem wxX4_isBelow_in : (.code yX4_isBelow cX4_isBelow 2 (some .boolean) : Cond) ∈ gT := gT_of (List.mem_append_right _ (List.mem_of_getElem? (i := 180) (by decide +kernel))) (by decide +kernel)
def rmX4_needKnown : Room := { frames := 6, cells := 1, slots := 6, locals := 82 }
abbrev wxX4_needKnown : List Cond := .code yX4_needKnown cX4_needKnown 1 none :: gT
theorem wxX4_needKnown_in : (.code yX4_needKnown cX4_needKnown 1 none : Cond) ∈ gT := gT_of (List.mem_append_right _ (List.mem_of_getElem? (i := 183) (by decide +kernel))) (by decide +kernel)
def rmX4_needRange : Room := { frames := 6, cells := 1, slots := 6, locals := 82 }
abbrev wxX4_needRange : List Cond := .code yX4_needRange cX4_needRange 1 none :: gT
theorem wxX4_needRange_in : (.code yX4_needRange cX4_needRange 1 none : Cond) ∈ gT := gT_of (List.mem_append_right _ (List.mem_of_getElem? (i := 256) (by decide +kernel))) (by decide +kernel)
def rmX4_rule : Room := { frames := 7, cells := 5, slots := 30, locals := 102 }
abbrev wxX4_rule : List Cond := .code yX4_rule cX4_rule 6 none :: gT
theorem wxX4_rule_in : (.code yX4_rule cX4_rule 6 none : Cond) ∈ gT := gT_of (List.mem_append_right _ (List.mem_of_getElem? (i := 177) (by decide +kernel))) (by decide +kernel)
def rmX4_weight : Room := { frames := 7, cells := 2, slots := 12, locals := 102 }
abbrev wxX4_weight : List Cond := .code yX4_weight cX4_weight 4 none :: gT
theorem wxX4_weight_in : (.code yX4_weight cX4_weight 4 none : Cond) ∈ gT := gT_of (List.mem_append_right _ (List.mem_of_getElem? (i := 280) (by decide +kernel))) (by decide +kernel)
def rmX4_needRoom : Room := { frames := 6, cells := 1, slots := 6, locals := 82 }
abbrev wxX4_needRoom : List Cond := .code yX4_needRoom cX4_needRoom 1 none :: gT
theorem wxX4_needRoom_in : (.code yX4_needRoom cX4_needRoom 1 none : Cond) ∈ gT := gT_of (List.mem_append_right _ (List.mem_of_getElem? (i := 292) (by decide +kernel))) (by decide +kernel)
def rmX2_append : Room := { frames := 0, cells := 0, slots := 0, locals := 0 }
abbrev wxX2_append : List Cond := .code yX2_append cX2_append 3 (some .int) :: gT
theorem wxX2_append_in : (.code yX2_append cX2_append 3 (some .int) : Cond) ∈ gT := gT_of (List.mem_append_right _ (List.mem_of_getElem? (i := 312) (by decide +kernel))) (by decide +kernel)
def rmX4_point : Room := { frames := 7, cells := 3, slots := 18, locals := 102 }
abbrev wxX4_point : List Cond := .code yX4_point cX4_point 3 (some .int) :: gT
theorem wxX4_point_in : (.code yX4_point cX4_point 3 (some .int) : Cond) ∈ gT := gT_of (List.mem_append_right _ (List.mem_of_getElem? (i := 288) (by decide +kernel))) (by decide +kernel)
def rmX0_latestTime : Room := { frames := 0, cells := 0, slots := 0, locals := 0 }
abbrev wxX0_latestTime : List Cond := .code yX0_latestTime cX0_latestTime 1 (some .int) :: gT
theorem wxX0_latestTime_in : (.code yX0_latestTime cX0_latestTime 1 (some .int) : Cond) ∈ gT := gT_of (List.mem_append_right _ (List.mem_of_getElem? (i := 327) (by decide +kernel))) (by decide +kernel)
def rmX4_needCallData : Room := { frames := 7, cells := 5, slots := 30, locals := 102 }
abbrev wxX4_needCallData : List Cond := .code yX4_needCallData cX4_needCallData 6 none :: gT
theorem wxX4_needCallData_in : (.code yX4_needCallData cX4_needCallData 6 none : Cond) ∈ gT := gT_of (List.mem_append_right _ (List.mem_of_getElem? (i := 323) (by decide +kernel))) (by decide +kernel)
def rmX0_draft : Room := { frames := 0, cells := 0, slots := 0, locals := 0 }
abbrev wxX0_draft : List Cond := .code yX0_draft cX0_draft 7 (some .int) :: gT
theorem wxX0_draft_in : (.code yX0_draft cX0_draft 7 (some .int) : Cond) ∈ gT := gT_of (List.mem_append_right _ (List.mem_of_getElem? (i := 331) (by decide +kernel))) (by decide +kernel)
def rmX0_isHoax : Room := { frames := 0, cells := 0, slots := 0, locals := 0 }
abbrev wxX0_isHoax : List Cond := .code yX0_isHoax cX0_isHoax 2 (some .boolean) :: gT
theorem wxX0_isHoax_in : (.code yX0_isHoax cX0_isHoax 2 (some .boolean) : Cond) ∈ gT := gT_of (List.mem_append_right _ (List.mem_of_getElem? (i := 347) (by decide +kernel))) (by decide +kernel)
def rmX4_isInOpenEvent : Room := { frames := 0, cells := 0, slots := 0, locals := 0 }
abbrev wxX4_isInOpenEvent : List Cond := .code yX4_isInOpenEvent cX4_isInOpenEvent 2 (some .boolean) :: gT
theorem wxX4_isInOpenEvent_in : (.code yX4_isInOpenEvent cX4_isInOpenEvent 2 (some .boolean) : Cond) ∈ gT := gT_of (List.mem_append_right _ (List.mem_of_getElem? (i := 351) (by decide +kernel))) (by decide +kernel)
def rmX4_canBeReason : Room := { frames := 1, cells := 0, slots := 0, locals := 21 }
abbrev wxX4_canBeReason : List Cond := .code yX4_canBeReason cX4_canBeReason 2 (some .boolean) :: gT
theorem wxX4_canBeReason_in : (.code yX4_canBeReason cX4_canBeReason 2 (some .boolean) : Cond) ∈ gT := gT_of (List.mem_append_right _ (List.mem_of_getElem? (i := 343) (by decide +kernel))) (by decide +kernel)
def rmX4_isWithinSpan : Room := { frames := 0, cells := 0, slots := 0, locals := 0 }
abbrev wxX4_isWithinSpan : List Cond := .code yX4_isWithinSpan cX4_isWithinSpan 3 (some .boolean) :: gT
theorem wxX4_isWithinSpan_in : (.code yX4_isWithinSpan cX4_isWithinSpan 3 (some .boolean) : Cond) ∈ gT := gT_of (List.mem_append_right _ (List.mem_of_getElem? (i := 355) (by decide +kernel))) (by decide +kernel)
def rmX4_latestOfLine : Room := { frames := 2, cells := 0, slots := 0, locals := 42 }
abbrev wxX4_latestOfLine : List Cond := .code yX4_latestOfLine cX4_latestOfLine 3 (some .int) :: gT
theorem wxX4_latestOfLine_in : (.code yX4_latestOfLine cX4_latestOfLine 3 (some .int) : Cond) ∈ gT := gT_of (List.mem_append_right _ (List.mem_of_getElem? (i := 339) (by decide +kernel))) (by decide +kernel)
def rmX4_takeReason : Room := { frames := 0, cells := 0, slots := 0, locals := 0 }
abbrev wxX4_takeReason : List Cond := .code yX4_takeReason cX4_takeReason 4 (some .boolean) :: gT
theorem wxX4_takeReason_in : (.code yX4_takeReason cX4_takeReason 4 (some .boolean) : Cond) ∈ gT := gT_of (List.mem_append_right _ (List.mem_of_getElem? (i := 359) (by decide +kernel))) (by decide +kernel)
def rmX1_isWatchedFor : Room := { frames := 0, cells := 0, slots := 0, locals := 0 }
abbrev wxX1_isWatchedFor : List Cond := .code yX1_isWatchedFor cX1_isWatchedFor 3 (some .boolean) :: gT
theorem wxX1_isWatchedFor_in : (.code yX1_isWatchedFor cX1_isWatchedFor 3 (some .boolean) : Cond) ∈ gT := gT_of (List.mem_append_right _ (List.mem_of_getElem? (i := 367) (by decide +kernel))) (by decide +kernel)
def rmX4_eastOf : Room := { frames := 0, cells := 0, slots := 0, locals := 0 }
abbrev wxX4_eastOf : List Cond := .code yX4_eastOf cX4_eastOf 1 (some .int) :: gT
theorem wxX4_eastOf_in : (.code yX4_eastOf cX4_eastOf 1 (some .int) : Cond) ∈ gT := gT_of (List.mem_append_right _ (List.mem_of_getElem? (i := 381) (by decide +kernel))) (by decide +kernel)
def rmX4_northOf : Room := { frames := 0, cells := 0, slots := 0, locals := 0 }
abbrev wxX4_northOf : List Cond := .code yX4_northOf cX4_northOf 1 (some .int) :: gT
theorem wxX4_northOf_in : (.code yX4_northOf cX4_northOf 1 (some .int) : Cond) ∈ gT := gT_of (List.mem_append_right _ (List.mem_of_getElem? (i := 384) (by decide +kernel))) (by decide +kernel)
def rmX4_squareBetween : Room := { frames := 1, cells := 0, slots := 0, locals := 20 }
abbrev wxX4_squareBetween : List Cond := .code yX4_squareBetween cX4_squareBetween 6 (some .long) :: gT
theorem wxX4_squareBetween_in : (.code yX4_squareBetween cX4_squareBetween 6 (some .long) : Cond) ∈ gT := gT_of (List.mem_append_right _ (List.mem_of_getElem? (i := 387) (by decide +kernel))) (by decide +kernel)
def rmX2_isNearPiece : Room := { frames := 2, cells := 0, slots := 0, locals := 45 }
abbrev wxX2_isNearPiece : List Cond := .code yX2_isNearPiece cX2_isNearPiece 17 (some .boolean) :: gT
theorem wxX2_isNearPiece_in : (.code yX2_isNearPiece cX2_isNearPiece 17 (some .boolean) : Cond) ∈ gT := gT_of (List.mem_append_right _ (List.mem_of_getElem? (i := 378) (by decide +kernel))) (by decide +kernel)
def rmX2_isNear : Room := { frames := 3, cells := 0, slots := 0, locals := 81 }
abbrev wxX2_isNear : List Cond := .code yX2_isNear cX2_isNear 7 (some .boolean) :: gT
theorem wxX2_isNear_in : (.code yX2_isNear cX2_isNear 7 (some .boolean) : Cond) ∈ gT := gT_of (List.mem_append_right _ (List.mem_of_getElem? (i := 375) (by decide +kernel))) (by decide +kernel)
def rmX4_isOnStretch : Room := { frames := 4, cells := 0, slots := 0, locals := 107 }
abbrev wxX4_isOnStretch : List Cond := .code yX4_isOnStretch cX4_isOnStretch 5 (some .boolean) :: gT
theorem wxX4_isOnStretch_in : (.code yX4_isOnStretch cX4_isOnStretch 5 (some .boolean) : Cond) ∈ gT := gT_of (List.mem_append_right _ (List.mem_of_getElem? (i := 371) (by decide +kernel))) (by decide +kernel)
def rmX4_firstOnStretch : Room := { frames := 5, cells := 0, slots := 0, locals := 131 }
abbrev wxX4_firstOnStretch : List Cond := .code yX4_firstOnStretch cX4_firstOnStretch 3 (some .int) :: gT
theorem wxX4_firstOnStretch_in : (.code yX4_firstOnStretch cX4_firstOnStretch 3 (some .int) : Cond) ∈ gT := gT_of (List.mem_append_right _ (List.mem_of_getElem? (i := 363) (by decide +kernel))) (by decide +kernel)
def rmX4_isCandidate : Room := { frames := 2, cells := 0, slots := 0, locals := 42 }
abbrev wxX4_isCandidate : List Cond := .code yX4_isCandidate cX4_isCandidate 3 (some .boolean) :: gT
theorem wxX4_isCandidate_in : (.code yX4_isCandidate cX4_isCandidate 3 (some .boolean) : Cond) ∈ gT := gT_of (List.mem_append_right _ (List.mem_of_getElem? (i := 398) (by decide +kernel))) (by decide +kernel)
def rmX3_weigh : Room := { frames := 0, cells := 0, slots := 0, locals := 0 }
abbrev wxX3_weigh : List Cond := .code yX3_weigh cX3_weigh 6 (some .int) :: gT
theorem wxX3_weigh_in : (.code yX3_weigh cX3_weigh 6 (some .int) : Cond) ∈ gT := gT_of (List.mem_append_right _ (List.mem_of_getElem? (i := 406) (by decide +kernel))) (by decide +kernel)
def rmX3_meetsNeed : Room := { frames := 0, cells := 0, slots := 0, locals := 0 }
abbrev wxX3_meetsNeed : List Cond := .code yX3_meetsNeed cX3_meetsNeed 4 (some .boolean) :: gT
theorem wxX3_meetsNeed_in : (.code yX3_meetsNeed cX3_meetsNeed 4 (some .boolean) : Cond) ∈ gT := gT_of (List.mem_append_right _ (List.mem_of_getElem? (i := 410) (by decide +kernel))) (by decide +kernel)
def rmX4_agreement : Room := { frames := 2, cells := 0, slots := 0, locals := 45 }
abbrev wxX4_agreement : List Cond := .code yX4_agreement cX4_agreement 13 (some .int) :: gT
theorem wxX4_agreement_in : (.code yX4_agreement cX4_agreement 13 (some .int) : Cond) ∈ gT := gT_of (List.mem_append_right _ (List.mem_of_getElem? (i := 402) (by decide +kernel))) (by decide +kernel)
def rmX4_nearestByPlace : Room := { frames := 3, cells := 0, slots := 0, locals := 77 }
abbrev wxX4_nearestByPlace : List Cond := .code yX4_nearestByPlace cX4_nearestByPlace 8 (some .int) :: gT
theorem wxX4_nearestByPlace_in : (.code yX4_nearestByPlace cX4_nearestByPlace 8 (some .int) : Cond) ∈ gT := gT_of (List.mem_append_right _ (List.mem_of_getElem? (i := 394) (by decide +kernel))) (by decide +kernel)
def rmX4_greatestShare : Room := { frames := 3, cells := 0, slots := 0, locals := 77 }
abbrev wxX4_greatestShare : List Cond := .code yX4_greatestShare cX4_greatestShare 9 (some .int) :: gT
theorem wxX4_greatestShare_in : (.code yX4_greatestShare cX4_greatestShare 9 (some .int) : Cond) ∈ gT := gT_of (List.mem_append_right _ (List.mem_of_getElem? (i := 416) (by decide +kernel))) (by decide +kernel)
def rmX4_seekReason : Room := { frames := 6, cells := 0, slots := 0, locals := 153 }
abbrev wxX4_seekReason : List Cond := .code yX4_seekReason cX4_seekReason 2 none :: gT
theorem wxX4_seekReason_in : (.code yX4_seekReason cX4_seekReason 2 none : Cond) ∈ gT := gT_of (List.mem_append_right _ (List.mem_of_getElem? (i := 335) (by decide +kernel))) (by decide +kernel)
def rmX1_begin : Room := { frames := 0, cells := 0, slots := 0, locals := 0 }
abbrev wxX1_begin : List Cond := .code yX1_begin cX1_begin 3 (some .int) :: gT
theorem wxX1_begin_in : (.code yX1_begin cX1_begin 3 (some .int) : Cond) ∈ gT := gT_of (List.mem_append_right _ (List.mem_of_getElem? (i := 420) (by decide +kernel))) (by decide +kernel)
def rmX4_call : Room := { frames := 8, cells := 7, slots := 42, locals := 174 }
abbrev wxX4_call : List Cond := .code yX4_call cX4_call 9 (some .int) :: gT
theorem wxX4_call_in : (.code yX4_call cX4_call 9 (some .int) : Cond) ∈ gT := gT_of (List.mem_append_right _ (List.mem_of_getElem? (i := 319) (by decide +kernel))) (by decide +kernel)
def rmX4_reasonFor : Room := { frames := 8, cells := 5, slots := 30, locals := 174 }
abbrev wxX4_reasonFor : List Cond := .code yX4_reasonFor cX4_reasonFor 8 (some .int) :: gT
theorem wxX4_reasonFor_in : (.code yX4_reasonFor cX4_reasonFor 8 (some .int) : Cond) ∈ gT := gT_of (List.mem_append_right _ (List.mem_of_getElem? (i := 427) (by decide +kernel))) (by decide +kernel)
def rmX4_mark : Room := { frames := 7, cells := 2, slots := 12, locals := 102 }
abbrev wxX4_mark : List Cond := .code yX4_mark cX4_mark 3 none :: gT
theorem wxX4_mark_in : (.code yX4_mark cX4_mark 3 none : Cond) ∈ gT := gT_of (List.mem_append_right _ (List.mem_of_getElem? (i := 434) (by decide +kernel))) (by decide +kernel)
def rmX4_needState : Room := { frames := 6, cells := 1, slots := 6, locals := 82 }
abbrev wxX4_needState : List Cond := .code yX4_needState cX4_needState 1 none :: gT
theorem wxX4_needState_in : (.code yX4_needState cX4_needState 1 none : Cond) ∈ gT := gT_of (List.mem_append_right _ (List.mem_of_getElem? (i := 445) (by decide +kernel))) (by decide +kernel)
def rmX0_isUnder : Room := { frames := 0, cells := 0, slots := 0, locals := 0 }
abbrev wxX0_isUnder : List Cond := .code yX0_isUnder cX0_isUnder 5 (some .boolean) :: gT
theorem wxX0_isUnder_in : (.code yX0_isUnder cX0_isUnder 5 (some .boolean) : Cond) ∈ gT := gT_of (List.mem_append_right _ (List.mem_of_getElem? (i := 469) (by decide +kernel))) (by decide +kernel)
def rmX0_moveBranch : Room := { frames := 1, cells := 0, slots := 0, locals := 24 }
abbrev wxX0_moveBranch : List Cond := .code yX0_moveBranch cX0_moveBranch 4 none :: gT
theorem wxX0_moveBranch_in : (.code yX0_moveBranch cX0_moveBranch 4 none : Cond) ∈ gT := gT_of (List.mem_append_right _ (List.mem_of_getElem? (i := 465) (by decide +kernel))) (by decide +kernel)
def rmX4_split : Room := { frames := 7, cells := 3, slots := 18, locals := 102 }
abbrev wxX4_split : List Cond := .code yX4_split cX4_split 3 (some .int) :: gT
theorem wxX4_split_in : (.code yX4_split cX4_split 3 (some .int) : Cond) ∈ gT := gT_of (List.mem_append_right _ (List.mem_of_getElem? (i := 442) (by decide +kernel))) (by decide +kernel)
def rmX0_moveAll : Room := { frames := 0, cells := 0, slots := 0, locals := 0 }
abbrev wxX0_moveAll : List Cond := .code yX0_moveAll cX0_moveAll 4 none :: gT
theorem wxX0_moveAll_in : (.code yX0_moveAll cX0_moveAll 4 none : Cond) ∈ gT := gT_of (List.mem_append_right _ (List.mem_of_getElem? (i := 480) (by decide +kernel))) (by decide +kernel)
def rmX0_countIn : Room := { frames := 0, cells := 0, slots := 0, locals := 0 }
abbrev wxX0_countIn : List Cond := .code yX0_countIn cX0_countIn 4 (some .int) :: gT
theorem wxX0_countIn_in : (.code yX0_countIn cX0_countIn 4 (some .int) : Cond) ∈ gT := gT_of (List.mem_append_right _ (List.mem_of_getElem? (i := 484) (by decide +kernel))) (by decide +kernel)
def rmX4_merge : Room := { frames := 7, cells := 2, slots := 12, locals := 102 }
abbrev wxX4_merge : List Cond := .code yX4_merge cX4_merge 5 (some .int) :: gT
theorem wxX4_merge_in : (.code yX4_merge cX4_merge 5 (some .int) : Cond) ∈ gT := gT_of (List.mem_append_right _ (List.mem_of_getElem? (i := 476) (by decide +kernel))) (by decide +kernel)
def rmX4_watch : Room := { frames := 7, cells := 3, slots := 18, locals := 102 }
abbrev wxX4_watch : List Cond := .code yX4_watch cX4_watch 5 none :: gT
theorem wxX4_watch_in : (.code yX4_watch cX4_watch 5 none : Cond) ∈ gT := gT_of (List.mem_append_right _ (List.mem_of_getElem? (i := 491) (by decide +kernel))) (by decide +kernel)
def rmX4_state : Room := { frames := 7, cells := 3, slots := 18, locals := 102 }
abbrev wxX4_state : List Cond := .code yX4_state cX4_state 3 none :: gT
theorem wxX4_state_in : (.code yX4_state cX4_state 3 none : Cond) ∈ gT := gT_of (List.mem_append_right _ (List.mem_of_getElem? (i := 504) (by decide +kernel))) (by decide +kernel)
def rmX4_needTwoCalls : Room := { frames := 7, cells := 1, slots := 6, locals := 102 }
abbrev wxX4_needTwoCalls : List Cond := .code yX4_needTwoCalls cX4_needTwoCalls 3 none :: gT
theorem wxX4_needTwoCalls_in : (.code yX4_needTwoCalls cX4_needTwoCalls 3 none : Cond) ∈ gT := gT_of (List.mem_append_right _ (List.mem_of_getElem? (i := 516) (by decide +kernel))) (by decide +kernel)
def rmX4_share : Room := { frames := 8, cells := 2, slots := 12, locals := 124 }
abbrev wxX4_share : List Cond := .code yX4_share cX4_share 5 (some .int) :: gT
theorem wxX4_share_in : (.code yX4_share cX4_share 5 (some .int) : Cond) ∈ gT := gT_of (List.mem_append_right _ (List.mem_of_getElem? (i := 512) (by decide +kernel))) (by decide +kernel)
def rmX4_agree : Room := { frames := 8, cells := 1, slots := 6, locals := 124 }
abbrev wxX4_agree : List Cond := .code yX4_agree cX4_agree 3 (some .int) :: gT
theorem wxX4_agree_in : (.code yX4_agree cX4_agree 3 (some .int) : Cond) ∈ gT := gT_of (List.mem_append_right _ (List.mem_of_getElem? (i := 539) (by decide +kernel))) (by decide +kernel)
def rmX4_callAt : Room := { frames := 7, cells := 1, slots := 6, locals := 102 }
abbrev wxX4_callAt : List Cond := .code yX4_callAt cX4_callAt 3 (some .int) :: gT
theorem wxX4_callAt_in : (.code yX4_callAt cX4_callAt 3 (some .int) : Cond) ∈ gT := gT_of (List.mem_append_right _ (List.mem_of_getElem? (i := 546) (by decide +kernel))) (by decide +kernel)
def rmX0_weighCall : Room := { frames := 0, cells := 0, slots := 0, locals := 0 }
abbrev wxX0_weighCall : List Cond := .code yX0_weighCall cX0_weighCall 3 (some .int) :: gT
theorem wxX0_weighCall_in : (.code yX0_weighCall cX0_weighCall 3 (some .int) : Cond) ∈ gT := gT_of (List.mem_append_right _ (List.mem_of_getElem? (i := 562) (by decide +kernel))) (by decide +kernel)
def rmX0_weighEvent : Room := { frames := 1, cells := 0, slots := 0, locals := 22 }
abbrev wxX0_weighEvent : List Cond := .code yX0_weighEvent cX0_weighEvent 4 (some .int) :: gT
theorem wxX0_weighEvent_in : (.code yX0_weighEvent cX0_weighEvent 4 (some .int) : Cond) ∈ gT := gT_of (List.mem_append_right _ (List.mem_of_getElem? (i := 557) (by decide +kernel))) (by decide +kernel)
def rmX0_pointOf : Room := { frames := 1, cells := 0, slots := 0, locals := 21 }
abbrev wxX0_pointOf : List Cond := .code yX0_pointOf cX0_pointOf 3 (some .int) :: gT
theorem wxX0_pointOf_in : (.code yX0_pointOf cX0_pointOf 3 (some .int) : Cond) ∈ gT := gT_of (List.mem_append_right _ (List.mem_of_getElem? (i := 566) (by decide +kernel))) (by decide +kernel)
def rmX0_latestTimeOf : Room := { frames := 0, cells := 0, slots := 0, locals := 0 }
abbrev wxX0_latestTimeOf : List Cond := .code yX0_latestTimeOf cX0_latestTimeOf 3 (some .int) :: gT
theorem wxX0_latestTimeOf_in : (.code yX0_latestTimeOf cX0_latestTimeOf 3 (some .int) : Cond) ∈ gT := gT_of (List.mem_append_right _ (List.mem_of_getElem? (i := 570) (by decide +kernel))) (by decide +kernel)
def rmX4_eventAt : Room := { frames := 7, cells := 1, slots := 6, locals := 102 }
abbrev wxX4_eventAt : List Cond := .code yX4_eventAt cX4_eventAt 3 (some .int) :: gT
theorem wxX4_eventAt_in : (.code yX4_eventAt cX4_eventAt 3 (some .int) : Cond) ∈ gT := gT_of (List.mem_append_right _ (List.mem_of_getElem? (i := 553) (by decide +kernel))) (by decide +kernel)
def rmX0_memberOf : Room := { frames := 0, cells := 0, slots := 0, locals := 0 }
abbrev wxX0_memberOf : List Cond := .code yX0_memberOf cX0_memberOf 5 (some .int) :: gT
theorem wxX0_memberOf_in : (.code yX0_memberOf cX0_memberOf 5 (some .int) : Cond) ∈ gT := gT_of (List.mem_append_right _ (List.mem_of_getElem? (i := 581) (by decide +kernel))) (by decide +kernel)
def rmX4_member : Room := { frames := 7, cells := 2, slots := 12, locals := 102 }
abbrev wxX4_member : List Cond := .code yX4_member cX4_member 4 (some .int) :: gT
theorem wxX4_member_in : (.code yX4_member cX4_member 4 (some .int) : Cond) ∈ gT := gT_of (List.mem_append_right _ (List.mem_of_getElem? (i := 577) (by decide +kernel))) (by decide +kernel)
def rmX1_countOpen : Room := { frames := 0, cells := 0, slots := 0, locals := 0 }
abbrev wxX1_countOpen : List Cond := .code yX1_countOpen cX1_countOpen 3 (some .int) :: gT
theorem wxX1_countOpen_in : (.code yX1_countOpen cX1_countOpen 3 (some .int) : Cond) ∈ gT := gT_of (List.mem_append_right _ (List.mem_of_getElem? (i := 592) (by decide +kernel))) (by decide +kernel)
def rmX0_countHoaxes : Room := { frames := 1, cells := 0, slots := 0, locals := 21 }
abbrev wxX0_countHoaxes : List Cond := .code yX0_countHoaxes cX0_countHoaxes 3 (some .int) :: gT
theorem wxX0_countHoaxes_in : (.code yX0_countHoaxes cX0_countHoaxes 3 (some .int) : Cond) ∈ gT := gT_of (List.mem_append_right _ (List.mem_of_getElem? (i := 596) (by decide +kernel))) (by decide +kernel)
def rmX4_count : Room := { frames := 7, cells := 1, slots := 6, locals := 102 }
abbrev wxX4_count : List Cond := .code yX4_count cX4_count 2 (some .int) :: gT
theorem wxX4_count_in : (.code yX4_count cX4_count 2 (some .int) : Cond) ∈ gT := gT_of (List.mem_append_right _ (List.mem_of_getElem? (i := 588) (by decide +kernel))) (by decide +kernel)
def rmX6_thrown : Room := { frames := 0, cells := 0, slots := 0, locals := 0 }
abbrev wxX6_thrown : List Cond := .code yX6_thrown cX6_thrown 1 (some .int) :: gT
theorem wxX6_thrown_in : (.code yX6_thrown cX6_thrown 1 (some .int) : Cond) ∈ gT := gT_of (List.mem_append_right _ (List.mem_of_getElem? (i := 679) (by decide +kernel))) (by decide +kernel)
def rmX6_throwing : Room := { frames := 0, cells := 0, slots := 0, locals := 0 }
abbrev wxX6_throwing : List Cond := .code yX6_throwing cX6_throwing 4 (some .boolean) :: gT
theorem wxX6_throwing_in : (.code yX6_throwing cX6_throwing 4 (some .boolean) : Cond) ∈ gT := gT_of (List.mem_append_right _ (List.mem_of_getElem? (i := 694) (by decide +kernel))) (by decide +kernel)
def rmX6_in : Room := { frames := 0, cells := 0, slots := 0, locals := 0 }
abbrev wxX6_in : List Cond := .code yX6_in cX6_in 3 (some .boolean) :: gT
theorem wxX6_in_in : (.code yX6_in cX6_in 3 (some .boolean) : Cond) ∈ gT := gT_of (List.mem_append_right _ (List.mem_of_getElem? (i := 686) (by decide +kernel))) (by decide +kernel)
def rmX6_isKind : Room := { frames := 1, cells := 0, slots := 0, locals := 22 }
abbrev wxX6_isKind : List Cond := .code yX6_isKind cX6_isKind 1 (some .boolean) :: gT
theorem wxX6_isKind_in : (.code yX6_isKind cX6_isKind 1 (some .boolean) : Cond) ∈ gT := gT_of (List.mem_append_right _ (List.mem_of_getElem? (i := 690) (by decide +kernel))) (by decide +kernel)
def rmX6_isRoad : Room := { frames := 1, cells := 0, slots := 0, locals := 22 }
abbrev wxX6_isRoad : List Cond := .code yX6_isRoad cX6_isRoad 1 (some .boolean) :: gT
theorem wxX6_isRoad_in : (.code yX6_isRoad cX6_isRoad 1 (some .boolean) : Cond) ∈ gT := gT_of (List.mem_append_right _ (List.mem_of_getElem? (i := 705) (by decide +kernel))) (by decide +kernel)
def rmX6_isCall : Room := { frames := 1, cells := 0, slots := 0, locals := 22 }
abbrev wxX6_isCall : List Cond := .code yX6_isCall cX6_isCall 2 (some .boolean) :: gT
theorem wxX6_isCall_in : (.code yX6_isCall cX6_isCall 2 (some .boolean) : Cond) ∈ gT := gT_of (List.mem_append_right _ (List.mem_of_getElem? (i := 792) (by decide +kernel))) (by decide +kernel)
def rmX6_isEvent : Room := { frames := 1, cells := 0, slots := 0, locals := 22 }
abbrev wxX6_isEvent : List Cond := .code yX6_isEvent cX6_isEvent 2 (some .boolean) :: gT
theorem wxX6_isEvent_in : (.code yX6_isEvent cX6_isEvent 2 (some .boolean) : Cond) ∈ gT := gT_of (List.mem_append_right _ (List.mem_of_getElem? (i := 804) (by decide +kernel))) (by decide +kernel)
def rmX6_isPoint : Room := { frames := 1, cells := 0, slots := 0, locals := 22 }
abbrev wxX6_isPoint : List Cond := .code yX6_isPoint cX6_isPoint 1 (some .boolean) :: gT
theorem wxX6_isPoint_in : (.code yX6_isPoint cX6_isPoint 1 (some .boolean) : Cond) ∈ gT := gT_of (List.mem_append_right _ (List.mem_of_getElem? (i := 708) (by decide +kernel))) (by decide +kernel)
def rmX6_rule : Room := { frames := 2, cells := 0, slots := 0, locals := 42 }
abbrev wxX6_rule : List Cond := .code yX6_rule cX6_rule 7 none :: gT
theorem wxX6_rule_in : (.code yX6_rule cX6_rule 7 none : Cond) ∈ gT := gT_of (List.mem_append_right _ (List.mem_of_getElem? (i := 683) (by decide +kernel))) (by decide +kernel)
def rmX6_weight : Room := { frames := 2, cells := 0, slots := 0, locals := 42 }
abbrev wxX6_weight : List Cond := .code yX6_weight cX6_weight 4 none :: gT
theorem wxX6_weight_in : (.code yX6_weight cX6_weight 4 none : Cond) ∈ gT := gT_of (List.mem_append_right _ (List.mem_of_getElem? (i := 698) (by decide +kernel))) (by decide +kernel)
def rmX6_point : Room := { frames := 2, cells := 0, slots := 0, locals := 42 }
abbrev wxX6_point : List Cond := .code yX6_point cX6_point 3 (some .int) :: gT
theorem wxX6_point_in : (.code yX6_point cX6_point 3 (some .int) : Cond) ∈ gT := gT_of (List.mem_append_right _ (List.mem_of_getElem? (i := 702) (by decide +kernel))) (by decide +kernel)
def rmX6_squareOf : Room := { frames := 0, cells := 0, slots := 0, locals := 0 }
abbrev wxX6_squareOf : List Cond := .code yX6_squareOf cX6_squareOf 6 (some .long) :: gT
theorem wxX6_squareOf_in : (.code yX6_squareOf cX6_squareOf 6 (some .long) : Cond) ∈ gT := gT_of (List.mem_append_right _ (List.mem_of_getElem? (i := 755) (by decide +kernel))) (by decide +kernel)
def rmX6_sum : Room := { frames := 0, cells := 0, slots := 0, locals := 0 }
abbrev wxX6_sum : List Cond := .code yX6_sum cX6_sum 5 (some .int) :: gT
theorem wxX6_sum_in : (.code yX6_sum cX6_sum 5 (some .int) : Cond) ∈ gT := gT_of (List.mem_append_right _ (List.mem_of_getElem? (i := 767) (by decide +kernel))) (by decide +kernel)
def rmX6_isEnough : Room := { frames := 1, cells := 0, slots := 0, locals := 24 }
abbrev wxX6_isEnough : List Cond := .code yX6_isEnough cX6_isEnough 4 (some .boolean) :: gT
theorem wxX6_isEnough_in : (.code yX6_isEnough cX6_isEnough 4 (some .boolean) : Cond) ∈ gT := gT_of (List.mem_append_right _ (List.mem_of_getElem? (i := 771) (by decide +kernel))) (by decide +kernel)
def rmX6_meets : Room := { frames := 2, cells := 0, slots := 0, locals := 47 }
abbrev wxX6_meets : List Cond := .code yX6_meets cX6_meets 12 (some .int) :: gT
theorem wxX6_meets_in : (.code yX6_meets cX6_meets 12 (some .int) : Cond) ∈ gT := gT_of (List.mem_append_right _ (List.mem_of_getElem? (i := 763) (by decide +kernel))) (by decide +kernel)
def rmX6_isOpen : Room := { frames := 0, cells := 0, slots := 0, locals := 0 }
abbrev wxX6_isOpen : List Cond := .code yX6_isOpen cX6_isOpen 2 (some .boolean) :: gT
theorem wxX6_isOpen_in : (.code yX6_isOpen cX6_isOpen 2 (some .boolean) : Cond) ∈ gT := gT_of (List.mem_append_right _ (List.mem_of_getElem? (i := 732) (by decide +kernel))) (by decide +kernel)
def rmX6_isHoax : Room := { frames := 0, cells := 0, slots := 0, locals := 0 }
abbrev wxX6_isHoax : List Cond := .code yX6_isHoax cX6_isHoax 2 (some .boolean) :: gT
theorem wxX6_isHoax_in : (.code yX6_isHoax cX6_isHoax 2 (some .boolean) : Cond) ∈ gT := gT_of (List.mem_append_right _ (List.mem_of_getElem? (i := 736) (by decide +kernel))) (by decide +kernel)
def rmX6_firstOf : Room := { frames := 0, cells := 0, slots := 0, locals := 0 }
abbrev wxX6_firstOf : List Cond := .code yX6_firstOf cX6_firstOf 3 (some .int) :: gT
theorem wxX6_firstOf_in : (.code yX6_firstOf cX6_firstOf 3 (some .int) : Cond) ∈ gT := gT_of (List.mem_append_right _ (List.mem_of_getElem? (i := 744) (by decide +kernel))) (by decide +kernel)
def rmX6_isBeside : Room := { frames := 1, cells := 0, slots := 0, locals := 25 }
abbrev wxX6_isBeside : List Cond := .code yX6_isBeside cX6_isBeside 17 (some .boolean) :: gT
theorem wxX6_isBeside_in : (.code yX6_isBeside cX6_isBeside 17 (some .boolean) : Cond) ∈ gT := gT_of (List.mem_append_right _ (List.mem_of_getElem? (i := 751) (by decide +kernel))) (by decide +kernel)
def rmX6_isOn : Room := { frames := 2, cells := 0, slots := 0, locals := 61 }
abbrev wxX6_isOn : List Cond := .code yX6_isOn cX6_isOn 8 (some .boolean) :: gT
theorem wxX6_isOn_in : (.code yX6_isOn cX6_isOn 8 (some .boolean) : Cond) ∈ gT := gT_of (List.mem_append_right _ (List.mem_of_getElem? (i := 748) (by decide +kernel))) (by decide +kernel)
def rmX6_again : Room := { frames := 1, cells := 0, slots := 0, locals := 21 }
abbrev wxX6_again : List Cond := .code yX6_again cX6_again 6 (some .int) :: gT
theorem wxX6_again_in : (.code yX6_again cX6_again 6 (some .int) : Cond) ∈ gT := gT_of (List.mem_append_right _ (List.mem_of_getElem? (i := 728) (by decide +kernel))) (by decide +kernel)
def rmX6_onStretch : Room := { frames := 3, cells := 0, slots := 0, locals := 88 }
abbrev wxX6_onStretch : List Cond := .code yX6_onStretch cX6_onStretch 6 (some .int) :: gT
theorem wxX6_onStretch_in : (.code yX6_onStretch cX6_onStretch 6 (some .int) : Cond) ∈ gT := gT_of (List.mem_append_right _ (List.mem_of_getElem? (i := 740) (by decide +kernel))) (by decide +kernel)
def rmX6_isBetter : Room := { frames := 1, cells := 0, slots := 0, locals := 25 }
abbrev wxX6_isBetter : List Cond := .code yX6_isBetter cX6_isBetter 6 (some .boolean) :: gT
theorem wxX6_isBetter_in : (.code yX6_isBetter cX6_isBetter 6 (some .boolean) : Cond) ∈ gT := gT_of (List.mem_append_right _ (List.mem_of_getElem? (i := 776) (by decide +kernel))) (by decide +kernel)
def rmX6_agreeing : Room := { frames := 3, cells := 0, slots := 0, locals := 78 }
abbrev wxX6_agreeing : List Cond := .code yX6_agreeing cX6_agreeing 9 (some .int) :: gT
theorem wxX6_agreeing_in : (.code yX6_agreeing cX6_agreeing 9 (some .int) : Cond) ∈ gT := gT_of (List.mem_append_right _ (List.mem_of_getElem? (i := 759) (by decide +kernel))) (by decide +kernel)
def rmX6_reason : Room := { frames := 4, cells := 0, slots := 0, locals := 113 }
abbrev wxX6_reason : List Cond := .code yX6_reason cX6_reason 8 (some .int) :: gT
theorem wxX6_reason_in : (.code yX6_reason cX6_reason 8 (some .int) : Cond) ∈ gT := gT_of (List.mem_append_right _ (List.mem_of_getElem? (i := 724) (by decide +kernel))) (by decide +kernel)
def rmX6_isRange : Room := { frames := 1, cells := 0, slots := 0, locals := 22 }
abbrev wxX6_isRange : List Cond := .code yX6_isRange cX6_isRange 4 (some .boolean) :: gT
theorem wxX6_isRange_in : (.code yX6_isRange cX6_isRange 4 (some .boolean) : Cond) ∈ gT := gT_of (List.mem_append_right _ (List.mem_of_getElem? (i := 720) (by decide +kernel))) (by decide +kernel)
def rmX6_isKnown : Room := { frames := 2, cells := 0, slots := 0, locals := 42 }
abbrev wxX6_isKnown : List Cond := .code yX6_isKnown cX6_isKnown 2 (some .boolean) :: gT
theorem wxX6_isKnown_in : (.code yX6_isKnown cX6_isKnown 2 (some .boolean) : Cond) ∈ gT := gT_of (List.mem_append_right _ (List.mem_of_getElem? (i := 716) (by decide +kernel))) (by decide +kernel)
def rmX6_newEvent : Room := { frames := 0, cells := 0, slots := 0, locals := 0 }
abbrev wxX6_newEvent : List Cond := .code yX6_newEvent cX6_newEvent 1 (some .int) :: gT
theorem wxX6_newEvent_in : (.code yX6_newEvent cX6_newEvent 1 (some .int) : Cond) ∈ gT := gT_of (List.mem_append_right _ (List.mem_of_getElem? (i := 780) (by decide +kernel))) (by decide +kernel)
def rmX6_call : Room := { frames := 5, cells := 0, slots := 0, locals := 140 }
abbrev wxX6_call : List Cond := .code yX6_call cX6_call 9 (some .int) :: gT
theorem wxX6_call_in : (.code yX6_call cX6_call 9 (some .int) : Cond) ∈ gT := gT_of (List.mem_append_right _ (List.mem_of_getElem? (i := 713) (by decide +kernel))) (by decide +kernel)
def rmX6_reasonFor : Room := { frames := 5, cells := 0, slots := 0, locals := 140 }
abbrev wxX6_reasonFor : List Cond := .code yX6_reasonFor cX6_reasonFor 7 (some .int) :: gT
theorem wxX6_reasonFor_in : (.code yX6_reasonFor cX6_reasonFor 7 (some .int) : Cond) ∈ gT := gT_of (List.mem_append_right _ (List.mem_of_getElem? (i := 784) (by decide +kernel))) (by decide +kernel)
def rmX6_mark : Room := { frames := 2, cells := 0, slots := 0, locals := 43 }
abbrev wxX6_mark : List Cond := .code yX6_mark cX6_mark 3 none :: gT
theorem wxX6_mark_in : (.code yX6_mark cX6_mark 3 none : Cond) ∈ gT := gT_of (List.mem_append_right _ (List.mem_of_getElem? (i := 788) (by decide +kernel))) (by decide +kernel)
def rmX6_split : Room := { frames := 2, cells := 0, slots := 0, locals := 43 }
abbrev wxX6_split : List Cond := .code yX6_split cX6_split 8 (some .int) :: gT
theorem wxX6_split_in : (.code yX6_split cX6_split 8 (some .int) : Cond) ∈ gT := gT_of (List.mem_append_right _ (List.mem_of_getElem? (i := 796) (by decide +kernel))) (by decide +kernel)
def rmX6_size : Room := { frames := 0, cells := 0, slots := 0, locals := 0 }
abbrev wxX6_size : List Cond := .code yX6_size cX6_size 4 (some .int) :: gT
theorem wxX6_size_in : (.code yX6_size cX6_size 4 (some .int) : Cond) ∈ gT := gT_of (List.mem_append_right _ (List.mem_of_getElem? (i := 808) (by decide +kernel))) (by decide +kernel)
def rmX6_merge : Room := { frames := 2, cells := 0, slots := 0, locals := 43 }
abbrev wxX6_merge : List Cond := .code yX6_merge cX6_merge 7 (some .int) :: gT
theorem wxX6_merge_in : (.code yX6_merge cX6_merge 7 (some .int) : Cond) ∈ gT := gT_of (List.mem_append_right _ (List.mem_of_getElem? (i := 800) (by decide +kernel))) (by decide +kernel)
def rmX6_watch : Room := { frames := 2, cells := 0, slots := 0, locals := 43 }
abbrev wxX6_watch : List Cond := .code yX6_watch cX6_watch 7 none :: gT
theorem wxX6_watch_in : (.code yX6_watch cX6_watch 7 none : Cond) ∈ gT := gT_of (List.mem_append_right _ (List.mem_of_getElem? (i := 812) (by decide +kernel))) (by decide +kernel)
def rmX6_state : Room := { frames := 2, cells := 0, slots := 0, locals := 43 }
abbrev wxX6_state : List Cond := .code yX6_state cX6_state 4 none :: gT
theorem wxX6_state_in : (.code yX6_state cX6_state 4 none : Cond) ∈ gT := gT_of (List.mem_append_right _ (List.mem_of_getElem? (i := 816) (by decide +kernel))) (by decide +kernel)
def rmX6_share : Room := { frames := 2, cells := 0, slots := 0, locals := 43 }
abbrev wxX6_share : List Cond := .code yX6_share cX6_share 6 (some .int) :: gT
theorem wxX6_share_in : (.code yX6_share cX6_share 6 (some .int) : Cond) ∈ gT := gT_of (List.mem_append_right _ (List.mem_of_getElem? (i := 820) (by decide +kernel))) (by decide +kernel)
def rmX6_agree : Room := { frames := 3, cells := 0, slots := 0, locals := 78 }
abbrev wxX6_agree : List Cond := .code yX6_agree cX6_agree 6 (some .int) :: gT
theorem wxX6_agree_in : (.code yX6_agree cX6_agree 6 (some .int) : Cond) ∈ gT := gT_of (List.mem_append_right _ (List.mem_of_getElem? (i := 824) (by decide +kernel))) (by decide +kernel)
def rmX6_callAt : Room := { frames := 2, cells := 0, slots := 0, locals := 43 }
abbrev wxX6_callAt : List Cond := .code yX6_callAt cX6_callAt 3 (some .int) :: gT
theorem wxX6_callAt_in : (.code yX6_callAt cX6_callAt 3 (some .int) : Cond) ∈ gT := gT_of (List.mem_append_right _ (List.mem_of_getElem? (i := 828) (by decide +kernel))) (by decide +kernel)
def rmX6_weightOf : Room := { frames := 1, cells := 0, slots := 0, locals := 21 }
abbrev wxX6_weightOf : List Cond := .code yX6_weightOf cX6_weightOf 4 (some .int) :: gT
theorem wxX6_weightOf_in : (.code yX6_weightOf cX6_weightOf 4 (some .int) : Cond) ∈ gT := gT_of (List.mem_append_right _ (List.mem_of_getElem? (i := 836) (by decide +kernel))) (by decide +kernel)
def rmX6_placeOf : Room := { frames := 1, cells := 0, slots := 0, locals := 21 }
abbrev wxX6_placeOf : List Cond := .code yX6_placeOf cX6_placeOf 3 (some .int) :: gT
theorem wxX6_placeOf_in : (.code yX6_placeOf cX6_placeOf 3 (some .int) : Cond) ∈ gT := gT_of (List.mem_append_right _ (List.mem_of_getElem? (i := 840) (by decide +kernel))) (by decide +kernel)
def rmX6_latestOf : Room := { frames := 0, cells := 0, slots := 0, locals := 0 }
abbrev wxX6_latestOf : List Cond := .code yX6_latestOf cX6_latestOf 4 (some .int) :: gT
theorem wxX6_latestOf_in : (.code yX6_latestOf cX6_latestOf 4 (some .int) : Cond) ∈ gT := gT_of (List.mem_append_right _ (List.mem_of_getElem? (i := 844) (by decide +kernel))) (by decide +kernel)
def rmX6_eventAt : Room := { frames := 2, cells := 0, slots := 0, locals := 44 }
abbrev wxX6_eventAt : List Cond := .code yX6_eventAt cX6_eventAt 4 (some .int) :: gT
theorem wxX6_eventAt_in : (.code yX6_eventAt cX6_eventAt 4 (some .int) : Cond) ∈ gT := gT_of (List.mem_append_right _ (List.mem_of_getElem? (i := 832) (by decide +kernel))) (by decide +kernel)
def rmX6_member : Room := { frames := 2, cells := 0, slots := 0, locals := 43 }
abbrev wxX6_member : List Cond := .code yX6_member cX6_member 6 (some .int) :: gT
theorem wxX6_member_in : (.code yX6_member cX6_member 6 (some .int) : Cond) ∈ gT := gT_of (List.mem_append_right _ (List.mem_of_getElem? (i := 848) (by decide +kernel))) (by decide +kernel)
def rmX6_count : Room := { frames := 1, cells := 0, slots := 0, locals := 23 }
abbrev wxX6_count : List Cond := .code yX6_count cX6_count 4 (some .int) :: gT
theorem wxX6_count_in : (.code yX6_count cX6_count 4 (some .int) : Cond) ∈ gT := gT_of (List.mem_append_right _ (List.mem_of_getElem? (i := 852) (by decide +kernel))) (by decide +kernel)
theorem gcjX4_45 : GoodIn gT (wsS RX4 45 yX4_needRange wxX4_needRange) := gT_S kcj_74 kcj_75 kcj_41 wxX4_needRange_in
theorem gcjX4_37 : GoodIn gT (wsS RX4 37 yX4_isBelow wxX4_isBelow) := gT_S kcj_76 kcj_77 kcj_41 wxX4_isBelow_in
theorem gcjX4_41 : GoodIn gT (wsS RX4 41 yX4_needKnown wxX4_needKnown) := gT_S kcj_78 kcj_79 kcj_41 wxX4_needKnown_in
theorem gcjX4_69 : GoodIn gT (wsS RX4 69 yX4_needRoom wxX4_needRoom) := gT_S kcj_80 kcj_81 kcj_41 wxX4_needRoom_in
theorem gcjX4_72 : GoodIn gT (wsV RX4 72 RX2 yX2_append wxX2_append) := gT_V kcj_82 kcj_83 kcj_84 kcj_85 wxX2_append_in
theorem gcjX4_210 : GoodIn gT (wsV RX4 210 RX0 yX0_latestTime wxX0_latestTime) := gT_V kcj_86 kcj_87 kcj_88 kcj_89 wxX0_latestTime_in
theorem gcjX4_213 : GoodIn gT (wsV RX4 213 RX0 yX0_isHoax wxX0_isHoax) := gT_V kcj_90 kcj_91 kcj_92 kcj_89 wxX0_isHoax_in
theorem gcjX4_104 : GoodIn gT (wsV RX4 104 RX4 yX4_isInOpenEvent wxX4_isInOpenEvent) := gT_V kcj_93 kcj_94 kcj_95 kcj_41 wxX4_isInOpenEvent_in
theorem gcjX4_235 : GoodIn gT (wsV RX4 235 RX4 yX4_canBeReason wxX4_canBeReason) := gT_V kcj_96 kcj_97 kcj_98 kcj_41 wxX4_canBeReason_in
theorem gcjX4_238 : GoodIn gT (wsV RX4 238 RX4 yX4_isWithinSpan wxX4_isWithinSpan) := gT_V kcj_99 kcj_100 kcj_101 kcj_41 wxX4_isWithinSpan_in
theorem gcjX4_270 : GoodIn gT (wsS RX4 270 yX4_eastOf wxX4_eastOf) := gT_S kcj_102 kcj_42 kcj_41 wxX4_eastOf_in
theorem gcjX4_273 : GoodIn gT (wsS RX4 273 yX4_northOf wxX4_northOf) := gT_S kcj_103 kcj_43 kcj_41 wxX4_northOf_in
theorem gcjX2_18 : GoodIn gT (wsS RX2 18 yX2_isNearPiece wxX2_isNearPiece) := gT_S kcj_104 kcj_105 kcj_85 wxX2_isNearPiece_in
theorem gcjX4_251 : GoodIn gT (wsV RX4 251 RX2 yX2_isNear wxX2_isNear) := gT_V kcj_106 kcj_107 kcj_108 kcj_85 wxX2_isNear_in
theorem gcjX4_241 : GoodIn gT (wsV RX4 241 RX1 yX1_isWatchedFor wxX1_isWatchedFor) := gT_V kcj_109 kcj_110 kcj_111 kcj_112 wxX1_isWatchedFor_in
theorem gcjX4_244 : GoodIn gT (wsV RX4 244 RX4 yX4_isOnStretch wxX4_isOnStretch) := gT_V kcj_113 kcj_114 kcj_115 kcj_41 wxX4_isOnStretch_in
theorem gcjX4_262 : GoodIn gT (wsV RX4 262 RX3 yX3_meetsNeed wxX3_meetsNeed) := gT_V kcj_116 kcj_117 kcj_118 kcj_119 wxX3_meetsNeed_in
theorem gcjX4_258 : GoodIn gT (wsS RX4 258 yX4_squareBetween wxX4_squareBetween) := gT_S kcj_120 kcj_45 kcj_41 wxX4_squareBetween_in
theorem gcjX4_157 : GoodIn gT (wsV RX4 157 RX3 yX3_weigh wxX3_weigh) := gT_V kcj_121 kcj_122 kcj_123 kcj_119 wxX3_weigh_in
theorem gcjX4_255 : GoodIn gT (wsV RX4 255 RX4 yX4_isCandidate wxX4_isCandidate) := gT_V kcj_124 kcj_125 kcj_126 kcj_41 wxX4_isCandidate_in
theorem gcjX4_167 : GoodIn gT (wsV RX4 167 RX4 yX4_agreement wxX4_agreement) := gT_V kcj_127 kcj_128 kcj_129 kcj_41 wxX4_agreement_in
theorem gcjX4_216 : GoodIn gT (wsV RX4 216 RX4 yX4_latestOfLine wxX4_latestOfLine) := gT_V kcj_130 kcj_131 kcj_132 kcj_41 wxX4_latestOfLine_in
theorem gcjX4_219 : GoodIn gT (wsV RX4 219 RX4 yX4_takeReason wxX4_takeReason) := gT_V kcj_133 kcj_134 kcj_135 kcj_41 wxX4_takeReason_in
theorem gcjX4_223 : GoodIn gT (wsV RX4 223 RX4 yX4_firstOnStretch wxX4_firstOnStretch) := gT_V kcj_136 kcj_137 kcj_138 kcj_41 wxX4_firstOnStretch_in
theorem gcjX4_226 : GoodIn gT (wsV RX4 226 RX4 yX4_nearestByPlace wxX4_nearestByPlace) := gT_V kcj_139 kcj_140 kcj_141 kcj_41 wxX4_nearestByPlace_in
theorem gcjX4_229 : GoodIn gT (wsV RX4 229 RX4 yX4_greatestShare wxX4_greatestShare) := gT_V kcj_142 kcj_143 kcj_144 kcj_41 wxX4_greatestShare_in
theorem gcjX4_83 : GoodIn gT (wsV RX4 83 RX0 yX0_draft wxX0_draft) := gT_V kcj_145 kcj_146 kcj_147 kcj_89 wxX0_draft_in
theorem gcjX4_87 : GoodIn gT (wsV RX4 87 RX4 yX4_seekReason wxX4_seekReason) := gT_V kcj_148 kcj_149 kcj_150 kcj_41 wxX4_seekReason_in
theorem gcjX4_98 : GoodIn gT (wsV RX4 98 RX1 yX1_begin wxX1_begin) := gT_V kcj_151 kcj_152 kcj_153 kcj_112 wxX1_begin_in
theorem gcjX4_76 : GoodIn gT (wsV RX4 76 RX4 yX4_needCallData wxX4_needCallData) := gT_V kcj_154 kcj_155 kcj_156 kcj_41 wxX4_needCallData_in
theorem gcjX0_46 : GoodIn gT (wsV RX0 46 RX0 yX0_isUnder wxX0_isUnder) := gT_V kcj_157 kcj_158 kcj_159 kcj_89 wxX0_isUnder_in
theorem gcjX4_108 : GoodIn gT (wsS RX4 108 yX4_needState wxX4_needState) := gT_S kcj_160 kcj_161 kcj_41 wxX4_needState_in
theorem gcjX4_114 : GoodIn gT (wsV RX4 114 RX0 yX0_moveBranch wxX0_moveBranch) := gT_V kcj_162 kcj_163 kcj_164 kcj_89 wxX0_moveBranch_in
theorem gcjX4_127 : GoodIn gT (wsV RX4 127 RX0 yX0_moveAll wxX0_moveAll) := gT_V kcj_165 kcj_166 kcj_167 kcj_89 wxX0_moveAll_in
theorem gcjX4_130 : GoodIn gT (wsV RX4 130 RX0 yX0_countIn wxX0_countIn) := gT_V kcj_168 kcj_169 kcj_170 kcj_89 wxX0_countIn_in
theorem gcjX4_151 : GoodIn gT (wsV RX4 151 RX4 yX4_needTwoCalls wxX4_needTwoCalls) := gT_V kcj_171 kcj_172 kcj_173 kcj_41 wxX4_needTwoCalls_in
theorem gcjX0_50 : GoodIn gT (wsV RX0 50 RX0 yX0_isHoax wxX0_isHoax) := gT_V kcj_174 kcj_91 kcj_92 kcj_89 wxX0_isHoax_in
theorem gcjX0_54 : GoodIn gT (wsV RX0 54 RX0 yX0_weighCall wxX0_weighCall) := gT_V kcj_175 kcj_176 kcj_177 kcj_89 wxX0_weighCall_in
theorem gcjX4_171 : GoodIn gT (wsV RX4 171 RX0 yX0_weighEvent wxX0_weighEvent) := gT_V kcj_178 kcj_179 kcj_180 kcj_89 wxX0_weighEvent_in
theorem gcjX4_174 : GoodIn gT (wsV RX4 174 RX0 yX0_pointOf wxX0_pointOf) := gT_V kcj_181 kcj_182 kcj_183 kcj_89 wxX0_pointOf_in
theorem gcjX4_177 : GoodIn gT (wsV RX4 177 RX0 yX0_latestTimeOf wxX0_latestTimeOf) := gT_V kcj_184 kcj_185 kcj_186 kcj_89 wxX0_latestTimeOf_in
theorem gcjX4_180 : GoodIn gT (wsV RX4 180 RX0 yX0_memberOf wxX0_memberOf) := gT_V kcj_187 kcj_188 kcj_189 kcj_89 wxX0_memberOf_in
theorem gcjX4_183 : GoodIn gT (wsV RX4 183 RX1 yX1_countOpen wxX1_countOpen) := gT_V kcj_190 kcj_191 kcj_192 kcj_112 wxX1_countOpen_in
theorem gcjX4_187 : GoodIn gT (wsV RX4 187 RX0 yX0_countHoaxes wxX0_countHoaxes) := gT_V kcj_193 kcj_194 kcj_195 kcj_89 wxX0_countHoaxes_in
theorem gmdX6_74 : GoodIn gT (wsS RX6 74 yX6_in wxX6_in) := gT_S kmd_28 kmd_29 kmd_30 wxX6_in_in
theorem gmdX6_86 : GoodIn gT (wsS RX6 86 yX6_isKind wxX6_isKind) := gT_S kmd_31 kmd_32 kmd_30 wxX6_isKind_in
theorem gmdX6_90 : GoodIn gT (wsV RX6 90 RX6 yX6_throwing wxX6_throwing) := gT_V kmd_33 kmd_34 kmd_35 kmd_30 wxX6_throwing_in
theorem gmdX6_97 : GoodIn gT (wsS RX6 97 yX6_isPoint wxX6_isPoint) := gT_S kmd_36 kmd_37 kmd_30 wxX6_isPoint_in
theorem gmdX6_94 : GoodIn gT (wsS RX6 94 yX6_isRoad wxX6_isRoad) := gT_S kmd_38 kmd_39 kmd_30 wxX6_isRoad_in
theorem gmdX6_100 : GoodIn gT (wsV RX6 100 RX6 yX6_sum wxX6_sum) := gT_V kmd_40 kmd_41 kmd_42 kmd_30 wxX6_sum_in
theorem gmdX6_104 : GoodIn gT (wsS RX6 104 yX6_squareOf wxX6_squareOf) := gT_S kmd_43 kmd_44 kmd_30 wxX6_squareOf_in
theorem gmdX6_108 : GoodIn gT (wsV RX6 108 RX6 yX6_isEnough wxX6_isEnough) := gT_V kmd_45 kmd_46 kmd_47 kmd_30 wxX6_isEnough_in
theorem gmdX6_115 : GoodIn gT (wsS RX6 115 yX6_isBeside wxX6_isBeside) := gT_S kmd_48 kmd_49 kmd_30 wxX6_isBeside_in
theorem gmdX6_118 : GoodIn gT (wsV RX6 118 RX6 yX6_isOpen wxX6_isOpen) := gT_V kmd_50 kmd_51 kmd_52 kmd_30 wxX6_isOpen_in
theorem gmdX6_121 : GoodIn gT (wsV RX6 121 RX6 yX6_isHoax wxX6_isHoax) := gT_V kmd_53 kmd_54 kmd_55 kmd_30 wxX6_isHoax_in
theorem gmdX6_128 : GoodIn gT (wsV RX6 128 RX6 yX6_isOn wxX6_isOn) := gT_V kmd_56 kmd_57 kmd_58 kmd_30 wxX6_isOn_in
theorem gmdX6_124 : GoodIn gT (wsV RX6 124 RX6 yX6_firstOf wxX6_firstOf) := gT_V kmd_59 kmd_60 kmd_61 kmd_30 wxX6_firstOf_in
theorem gmdX6_135 : GoodIn gT (wsV RX6 135 RX6 yX6_isBetter wxX6_isBetter) := gT_V kmd_62 kmd_63 kmd_64 kmd_30 wxX6_isBetter_in
theorem gmdX6_131 : GoodIn gT (wsV RX6 131 RX6 yX6_meets wxX6_meets) := gT_V kmd_65 kmd_66 kmd_67 kmd_30 wxX6_meets_in
theorem gmdX6_142 : GoodIn gT (wsV RX6 142 RX6 yX6_again wxX6_again) := gT_V kmd_68 kmd_69 kmd_70 kmd_30 wxX6_again_in
theorem gmdX6_146 : GoodIn gT (wsV RX6 146 RX6 yX6_onStretch wxX6_onStretch) := gT_V kmd_71 kmd_72 kmd_73 kmd_30 wxX6_onStretch_in
theorem gmdX6_149 : GoodIn gT (wsV RX6 149 RX6 yX6_agreeing wxX6_agreeing) := gT_V kmd_74 kmd_75 kmd_76 kmd_30 wxX6_agreeing_in
theorem gmdX6_156 : GoodIn gT (wsV RX6 156 RX6 yX6_isRange wxX6_isRange) := gT_V kmd_77 kmd_78 kmd_79 kmd_30 wxX6_isRange_in
theorem gmdX6_159 : GoodIn gT (wsV RX6 159 RX6 yX6_reason wxX6_reason) := gT_V kmd_80 kmd_81 kmd_82 kmd_30 wxX6_reason_in
theorem gmdX6_163 : GoodIn gT (wsV RX6 163 RX6 yX6_newEvent wxX6_newEvent) := gT_V kmd_83 kmd_84 kmd_85 kmd_30 wxX6_newEvent_in
theorem gmdX6_152 : GoodIn gT (wsS RX6 152 yX6_isKnown wxX6_isKnown) := gT_S kmd_86 kmd_87 kmd_30 wxX6_isKnown_in
theorem gmdX6_167 : GoodIn gT (wsV RX6 167 RX6 yX6_isCall wxX6_isCall) := gT_V kmd_88 kmd_89 kmd_90 kmd_30 wxX6_isCall_in
theorem gmdX6_173 : GoodIn gT (wsV RX6 173 RX6 yX6_size wxX6_size) := gT_V kmd_91 kmd_92 kmd_93 kmd_30 wxX6_size_in
theorem gmdX6_170 : GoodIn gT (wsV RX6 170 RX6 yX6_isEvent wxX6_isEvent) := gT_V kmd_94 kmd_95 kmd_96 kmd_30 wxX6_isEvent_in
theorem gmdX6_176 : GoodIn gT (wsV RX6 176 RX6 yX6_weightOf wxX6_weightOf) := gT_V kmd_97 kmd_98 kmd_99 kmd_30 wxX6_weightOf_in
theorem gmdX6_179 : GoodIn gT (wsV RX6 179 RX6 yX6_placeOf wxX6_placeOf) := gT_V kmd_100 kmd_101 kmd_102 kmd_30 wxX6_placeOf_in
theorem gmdX6_182 : GoodIn gT (wsV RX6 182 RX6 yX6_latestOf wxX6_latestOf) := gT_V kmd_103 kmd_104 kmd_105 kmd_30 wxX6_latestOf_in
end
section
def gEs : List String := ["java/lang/RuntimeException", "java/lang/Exception"]
def gB : List Cond := [.methodLinkNest RX2 22 yX4_eastOf "CallJoin", .methodLinkNest RX2 26 yX4_northOf "CallJoin", .methodLinkNest RX2 29 yX4_squareBetween "CallJoin", .declares (Bundle.initS "java/lang/RuntimeException"), .declares (Bundle.initS "java/lang/Exception"), .declares (Bundle.initS Bundle.tN), .castable "java/lang/IllegalArgumentException" "java/lang/IllegalArgumentException", .castable "java/lang/IndexOutOfBoundsException" "java/lang/IndexOutOfBoundsException", .castable "java/lang/IllegalStateException" "java/lang/IllegalStateException", .castable "java/lang/UnsupportedOperationException" "java/lang/UnsupportedOperationException", .castable "java/lang/ArithmeticException" "java/lang/ArithmeticException"]
def gNc : List (String × String) := [("java/lang/IndexOutOfBoundsException", "java/lang/IllegalArgumentException"), ("java/lang/UnsupportedOperationException", "java/lang/IllegalArgumentException"), ("java/lang/UnsupportedOperationException", "java/lang/IndexOutOfBoundsException"), ("java/lang/IllegalStateException", "java/lang/IllegalArgumentException"), ("java/lang/UnsupportedOperationException", "java/lang/IllegalStateException"), ("java/lang/IllegalStateException", "java/lang/IndexOutOfBoundsException"), ("java/lang/ArithmeticException", "java/lang/IllegalArgumentException")]
def gX (A : Nat → Prop) (U : State) (H : Heap) : Prop := (∀ w ∈ gB, va_Nw w U) ∧ (∀ q ∈ gNc, va_Nc q.1 q.2 U) ∧ (∃ q, vk_R RX4 192 "an unknown number" q U) ∧ (∃ q, vk_R RX4 197 "a number outside its range" q U) ∧ (∃ q, vk_R RX4 202 "not in this state" q U) ∧ (∃ q, vk_R RX4 207 "no room" q U) ∧ (∃ q, vk_R RX4 162 "there is no share" q U) ∧ vx_Zq Bundle.tN "UNASSIGNED_STACK" Bundle.steD A U H ∧ vx_Zq Bundle.tN "SUPPRESSED_SENTINEL" Bundle.listD A U H
def gNw : Cond → Bool
  | .declares _ | .castable .. | .methodLinkNest .. | .fieldLinkNest .. => true
  | _ => false
theorem gNw_t {w : Cond} (h : gNw w = true) : w.onTables = true := by cases w <;> first | rfl | (simp [gNw] at h)
theorem gNw_w {w : Cond} (h : gNw w = true) {s U : State} (hW : s.WarmedH U.vm) (hZ : va_Nw w s) : va_Nw w U := by
  cases w <;> first | exact va_Nw.warmD hW hZ | exact va_Nw.warmC hW hZ | exact va_Nw.warmM hW hZ | exact va_Nw.warmF hW hZ | (simp [gNw] at h)
theorem gB_k : ∀ w ∈ gB, gNw w = true := by decide +kernel
theorem gX_ok : gw_ok gX := by
  refine ⟨fun A U V H hv h => ?_, fun A s U H hW h => ?_, fun A U H H1 hk h => ?_, fun A B U H hAB h => ?_⟩ <;> obtain ⟨hB, hN, hs0, hs1, hs2, hs3, hs4, hU, hV⟩ := h
  · exact ⟨fun w hw => va_Nw.same (gNw_t (gB_k w hw)) hv.symm (hB w hw), fun q hq => va_Nc.moved (hv ▸ Vm.Alike.refl U.vm) (hN q hq), hs0.imp (fun _ q => vk_R.same hv q), hs1.imp (fun _ q => vk_R.same hv q), hs2.imp (fun _ q => vk_R.same hv q), hs3.imp (fun _ q => vk_R.same hv q), hs4.imp (fun _ q => vk_R.same hv q), hU.moved (hv ▸ Vm.Alike.refl U.vm), hV.moved (hv ▸ Vm.Alike.refl U.vm)⟩
  · exact ⟨fun w hw => gNw_w (gB_k w hw) hW (hB w hw), fun q hq => va_Nc.moved hW.alike (hN q hq), hs0.imp (fun _ q => vk_R.warm hW q), hs1.imp (fun _ q => vk_R.warm hW q), hs2.imp (fun _ q => vk_R.warm hW q), hs3.imp (fun _ q => vk_R.warm hW q), hs4.imp (fun _ q => vk_R.warm hW q), hU.moved hW.alike, hV.moved hW.alike⟩
  · exact ⟨hB, hN, hs0, hs1, hs2, hs3, hs4, hU.kept hk, hV.kept hk⟩
  · exact ⟨hB, hN, hs0, hs1, hs2, hs3, hs4, hU.narrow hAB, hV.narrow hAB⟩
theorem gX_n {A : Nat → Prop} {U : State} {H : Heap} (h : gX A U H) (w : Cond) (hw : w ∈ gB) : va_Nw w U := h.1 w hw
theorem gX_b {A : Nat → Prop} {U : State} {H : Heap} (h : gX A U H) {args : Array Value} : ∀ w ∈ gB, w.before args U = true := fun w hw => va_Nw.use (gNw_t (gB_k w hw)) (h.1 w hw)
theorem gX_c {A : Nat → Prop} {U : State} {H : Heap} (h : gX A U H) {E T : String} (hq : (E, T) ∈ gNc) : va_Nc E T U := h.2.1 (E, T) hq
theorem gX_s1 {A : Nat → Prop} {U : State} {H : Heap} (h : gX A U H) : ∃ q, vk_R RX4 192 "an unknown number" q U := h.2.2.1
theorem gX_s2 {A : Nat → Prop} {U : State} {H : Heap} (h : gX A U H) : ∃ q, vk_R RX4 197 "a number outside its range" q U := h.2.2.2.1
theorem gX_s3 {A : Nat → Prop} {U : State} {H : Heap} (h : gX A U H) : ∃ q, vk_R RX4 202 "not in this state" q U := h.2.2.2.2.1
theorem gX_s4 {A : Nat → Prop} {U : State} {H : Heap} (h : gX A U H) : ∃ q, vk_R RX4 207 "no room" q U := h.2.2.2.2.2.1
theorem gX_s5 {A : Nat → Prop} {U : State} {H : Heap} (h : gX A U H) : ∃ q, vk_R RX4 162 "there is no share" q U := h.2.2.2.2.2.2.1
theorem gX_u {A : Nat → Prop} {U : State} {H : Heap} (h : gX A U H) : vx_Zq Bundle.tN "UNASSIGNED_STACK" Bundle.steD A U H := h.2.2.2.2.2.2.2.1
theorem gX_v {A : Nat → Prop} {U : State} {H : Heap} (h : gX A U H) : vx_Zq Bundle.tN "SUPPRESSED_SENTINEL" Bundle.listD A U H := h.2.2.2.2.2.2.2.2
theorem tA_1 : ∀ w ∈ (vx_atS RX4 194 "java/lang/IllegalArgumentException" gEs).filter goodWord, w ∈ gT := fun w hw => gT_of ((by decide +kernel : ∀ w ∈ (vx_atS RX4 194 "java/lang/IllegalArgumentException" gEs).filter goodWord, w ∈ lw_tbl) w hw) (List.mem_filter.mp hw).2
theorem tB_1 : ∀ w ∈ (vx_atS RX4 194 "java/lang/IllegalArgumentException" gEs).filter (fun w => !goodWord w), w ∈ gB := by decide +kernel
theorem tG_1 : ∀ w ∈ Cond.classLink RX4 190 "java/lang/IllegalArgumentException" :: Cond.initialized "java/lang/IllegalArgumentException" :: vx_atS RX4 194 "java/lang/IllegalArgumentException" gEs, vx_ot w = true := by decide +kernel
theorem tA_2 : ∀ w ∈ (vx_atS RX4 199 "java/lang/IndexOutOfBoundsException" gEs).filter goodWord, w ∈ gT := fun w hw => gT_of ((by decide +kernel : ∀ w ∈ (vx_atS RX4 199 "java/lang/IndexOutOfBoundsException" gEs).filter goodWord, w ∈ lw_tbl) w hw) (List.mem_filter.mp hw).2
theorem tB_2 : ∀ w ∈ (vx_atS RX4 199 "java/lang/IndexOutOfBoundsException" gEs).filter (fun w => !goodWord w), w ∈ gB := by decide +kernel
theorem tG_2 : ∀ w ∈ Cond.classLink RX4 195 "java/lang/IndexOutOfBoundsException" :: Cond.initialized "java/lang/IndexOutOfBoundsException" :: vx_atS RX4 199 "java/lang/IndexOutOfBoundsException" gEs, vx_ot w = true := by decide +kernel
theorem tA_3 : ∀ w ∈ (vx_atS RX4 204 "java/lang/IllegalStateException" gEs).filter goodWord, w ∈ gT := fun w hw => gT_of ((by decide +kernel : ∀ w ∈ (vx_atS RX4 204 "java/lang/IllegalStateException" gEs).filter goodWord, w ∈ lw_tbl) w hw) (List.mem_filter.mp hw).2
theorem tB_3 : ∀ w ∈ (vx_atS RX4 204 "java/lang/IllegalStateException" gEs).filter (fun w => !goodWord w), w ∈ gB := by decide +kernel
theorem tG_3 : ∀ w ∈ Cond.classLink RX4 200 "java/lang/IllegalStateException" :: Cond.initialized "java/lang/IllegalStateException" :: vx_atS RX4 204 "java/lang/IllegalStateException" gEs, vx_ot w = true := by decide +kernel
theorem tA_4 : ∀ w ∈ (vx_atS RX4 209 "java/lang/UnsupportedOperationException" gEs).filter goodWord, w ∈ gT := fun w hw => gT_of ((by decide +kernel : ∀ w ∈ (vx_atS RX4 209 "java/lang/UnsupportedOperationException" gEs).filter goodWord, w ∈ lw_tbl) w hw) (List.mem_filter.mp hw).2
theorem tB_4 : ∀ w ∈ (vx_atS RX4 209 "java/lang/UnsupportedOperationException" gEs).filter (fun w => !goodWord w), w ∈ gB := by decide +kernel
theorem tG_4 : ∀ w ∈ Cond.classLink RX4 205 "java/lang/UnsupportedOperationException" :: Cond.initialized "java/lang/UnsupportedOperationException" :: vx_atS RX4 209 "java/lang/UnsupportedOperationException" gEs, vx_ot w = true := by decide +kernel
theorem tA_5 : ∀ w ∈ (vx_atS RX4 164 "java/lang/ArithmeticException" gEs).filter goodWord, w ∈ gT := fun w hw => gT_of ((by decide +kernel : ∀ w ∈ (vx_atS RX4 164 "java/lang/ArithmeticException" gEs).filter goodWord, w ∈ lw_tbl) w hw) (List.mem_filter.mp hw).2
theorem tB_5 : ∀ w ∈ (vx_atS RX4 164 "java/lang/ArithmeticException" gEs).filter (fun w => !goodWord w), w ∈ gB := by decide +kernel
theorem tG_5 : ∀ w ∈ Cond.classLink RX4 160 "java/lang/ArithmeticException" :: Cond.initialized "java/lang/ArithmeticException" :: vx_atS RX4 164 "java/lang/ArithmeticException" gEs, vx_ot w = true := by decide +kernel
end
section
def R_law : String := "CallJoinLaw"
def lw_P (b : Addr) (xs : List Int32) (args : Array Value) (s : State) : Prop := args = #[.ref b] ∧ s.IntsAt b xs ∧ xs.length ≤ 7 ∧ (Jvm.Cond.and given_1 narrow_1).before args s = true
def lw_Q (_ : Array Value) (s : State) (o : Outcome) (t : State) : Prop := o = .returned (some (.int 1)) ∧ Framed s o t [] 57 3710
def lw_Z (below : List Frame) (a : Array Value) (s : State) : State → Prop := fun t => ∃ o, t.status = .running ∧ Ended t below o ∧ lw_Q a s o t
theorem lw_ret {p : Program} {l : Launch} {e : Env} {s : State} {m : MethodId} {below : List Frame} {meth : Method} {c : Code} {b : Nat} (hx : p.tables.exec = Jvm.exec) (hb : c.code = code) (hr : meth.sig.returnType = ret) (hlocks : meth.locks = false) {pc : Nat} {H : Heap} {ls : Array Slot} (hdg : decode code pc = .ok (.ireturn, 1)) : W p l e room_1 s m #[Value.ref b] below meth c H [] 57 3710 (lw_Z below #[Value.ref b] s) (F0 m pc ls [.int 1]) := by
  intro T hT X
  obtain ⟨fs, hret, hrun, hended, hW, hframe⟩ := X.leave (v := some (.int 1)) (hlocks := hlocks) (fun h => by rw [hr] at h; cases h)
  have hmeth' : T.vm.method? m = some meth := X.method'
  refine ⟨T.setFrames fs, ?_, .returned (some (.int 1)), hrun, hended, rfl, ⟨_, rfl⟩, hW, hframe⟩
  jvm_step X.here [X.here.top, hx, hb, hdg, hmeth', hr, ret, narrow_b1]
  (try refine ⟨rfl, ?_⟩); (try refine ⟨rfl, ?_⟩)
  first | (intro acts; rw [hret _ acts rfl rfl rfl]) | rw [hret _ _ rfl rfl rfl]
  exact Steps.refl _
def lw_At (p : Program) (s : State) (m : MethodId) (meth : Method) (c : Code) (b L : Nat) (xs : Nat → Int32) : Prop :=
  p.tables.exec = Jvm.exec ∧ c.code = code ∧ meth.sig.returnType = ret ∧ c.maxLocals = 7 ∧ s.vm.findClass R_law = some m.cls ∧ (∀ w ∈ lw_tbl, w.before #[Value.ref b] s = true) ∧ va_X b L xs s s.heap ∧ b < s.heap.size ∧ meth.locks = false ∧ (Jvm.Cond.and given_1 narrow_1).before #[Value.ref b] s = true
end
section
def gY : (Nat → Prop) → State → Heap → Prop := fun _ _ _ => True
theorem gY_ok : gw_ok gY := ⟨fun _ _ _ _ _ _ => trivial, fun _ _ _ _ _ _ => trivial, fun _ _ _ _ _ _ => trivial, fun _ _ _ _ _ _ => trivial⟩
def lwA (a : Nat → Nat) (ao : Nat) : List Nat := cjA a ++ [ao]
def lwW (a : Nat → Nat) (cA : ClassId) (ao : Nat) (cL : ClassId) (v : g_S × (Nat → Int64)) : va_W := cjW a cA v.1 ++ [(ao, .inl (cL, 1, .inr (.inl v.2)))]
theorem lwW_as (a : Nat → Nat) (cA : ClassId) (ao : Nat) (cL : ClassId) (v : g_S × (Nat → Int64)) : (lwW a cA ao cL v).map Prod.fst = lwA a ao := rfl
theorem lw_le {a : Nat → Nat} {ao : Nat} : ∀ q ∈ cjA a, q ∈ lwA a ao := fun _ h => List.mem_append_left _ h
theorem lw_nd {a : Nat → Nat} {ao : Nat} (h : (lwA a ao).Nodup) : (cjA a).Nodup := (List.nodup_append.mp h).1
theorem lw_ao {a : Nat → Nat} {ao : Nat} (h : (lwA a ao).Nodup) : ∀ q ∈ [ao], q ∉ cjA a := fun q hq hc => (List.nodup_append.mp h).2.2 q hc q hq rfl
def lawA (a b : Nat → Nat) (ao : Nat) : List Nat := lwA a ao ++ mdA b
def lawW (a b : Nat → Nat) (ao : Nat) (cA cL : ClassId) (v : (g_S × (Nat → Int64)) × g_S) : va_W := lwW a cA ao cL v.1 ++ mdW b cA v.2
def law_C (D : va_G) (a b : Nat → Nat) (ao : Nat) (cA cL : ClassId) (s : State) : Prop :=
  va_K D vwCl [(cA, .int), (cL, .long)] s ∧ (lawA a b ao).Nodup ∧ (∀ q ∈ lawA a b ao, s.heap.size ≤ q) ∧ gX (rg (lawA a b ao) s.heap.size) s s.heap
section LAWB
variable {a b : Nat → Nat} {ao : Nat}
theorem law_le1 : ∀ q ∈ lwA a ao, q ∈ lawA a b ao := fun _ h => List.mem_append_left _ h
theorem law_le2 : ∀ q ∈ mdA b, q ∈ lawA a b ao := fun _ h => List.mem_append_right _ h
theorem law_n1 (h : (lawA a b ao).Nodup) : (lwA a ao).Nodup := (List.nodup_append.mp h).1
theorem law_n2 (h : (lawA a b ao).Nodup) : (mdA b).Nodup := (List.nodup_append.mp h).2.1
theorem law_d1 (h : (lawA a b ao).Nodup) : ∀ q ∈ mdA b, q ∉ lwA a ao := fun q hq hc => (List.nodup_append.mp h).2.2 q hc q hq rfl
theorem law_d2 (h : (lawA a b ao).Nodup) : ∀ q ∈ lwA a ao, q ∉ mdA b := fun q hq hc => (List.nodup_append.mp h).2.2 q hq q hc rfl
theorem law_ge {s : State} (hge : ∀ q ∈ lawA a b ao, s.heap.size ≤ q) {q : Nat} (h : rg (lawA a b ao) s.heap.size q) : s.heap.size ≤ q := h.elim (hge q) id
theorem law_nb {s : State} {sb : Nat} (hge : ∀ q ∈ lawA a b ao, s.heap.size ≤ q) (h : sb < s.heap.size) : ¬ rg (lawA a b ao) s.heap.size sb := fun z => absurd (law_ge hge z) (Nat.not_le.mpr h)
end LAWB
def lawN : Nat := 7
def lawMc : Nat := 57
def lawMs : Nat := 3710
theorem law_ix {k i L : Nat} {x4 : Int32} (ex4 : x4 = nI i) (h : i + k < L) (hL : L < 2 ^ 31) : vp_in (x4 + Int32.ofNat k) L := by
  rw [ex4, show nI i + Int32.ofNat k = nI (i + k) from nI_add i k]; exact vp_in_nI h hL
theorem law_i0 {i L : Nat} {x4 : Int32} (ex4 : x4 = nI i) (h : i < L) (hL : L < 2 ^ 31) : vp_in x4 L := by rw [ex4]; exact vp_in_nI h hL
theorem law_c7 : ∀ L, L < 7 → ∀ i, i < 14 → Int32.ofNat L - 7 < nI i := by decide +kernel
theorem law_cn {i L : Nat} {x4 : Int32} (hL : L ≤ lawN) (hi : i ≤ L + 7) (ex4 : x4 = nI i) (c : ¬ Int32.ofNat L - 7 < x4) : i + 7 ≤ L := by
  unfold lawN at hL
  rcases Nat.lt_or_ge L 7 with h | h
  · exact absurd (by rw [ex4]; exact law_c7 L h i (by omega)) c
  · have e : Int32.ofNat L - 7 = nI (L - 7) := by
      have h1 : nI (L - 7) + nI 7 = nI L := by rw [nI_add]; congr 1; omega
      have h2 : (7 : Int32) = nI 7 := by decide +kernel
      rw [show Int32.ofNat L = nI L from rfl, ← h1, h2, Int32.add_sub_cancel]
    rw [e, ex4] at c
    have h3 := mt (nI_ltI (a := L - 7) (b := i) (by omega) (by omega)).mpr c
    omega
theorem gT_vS {own : String} {idx : Nat} {y : MethodName} {c : Cond} (h1 : Cond.methodLink own idx y ∈ gT) (h2 : Cond.static y ∈ gT) (h3 : Cond.initialized y.cls ∈ gT) (h5 : c ∈ gT) : GoodIn gT (va_wsS own idx y (c :: gT)) := fun w hw => by
  refine gT_g ?_
  unfold va_wsS at hw
  rcases List.mem_append.mp hw with q | q
  · simp only [List.mem_cons, List.not_mem_nil, or_false] at q
    rcases q with rfl | rfl | rfl
    · exact h1
    · exact h2
    · exact h3
  · exact gT_c h5 q
theorem lwv {f : Nat → Int64} {x y : Int32} {k : Nat} (hk : k = 0) (h : x = y) : lg_cmp ((if k = 0 then vp_updL f 0 (Int32.toInt64 x) else f) (0 : Int32).toNatClampNeg) (Int32.toInt64 y) = 0 := by
  rw [if_pos hk, h, show (vp_updL f 0 (Int32.toInt64 y)) (0 : Int32).toNatClampNeg = Int32.toInt64 y from rfl]
  unfold lg_cmp
  rw [if_neg Int64.lt_irrefl, if_pos rfl]
end
section
theorem dX4_init_0 : decode cX4_init 0 = .ok (.aload_n 0, 1) := by decide +kernel
theorem dX4_init_1 : decode cX4_init 1 = .ok (.invokespecial 3, 3) := by decide +kernel
theorem dX4_init_4 : decode cX4_init 4 = .ok (.aload_n 0, 1) := by decide +kernel
theorem dX4_init_5 : decode cX4_init 5 = .ok (.new 9, 3) := by decide +kernel
theorem dX4_init_8 : decode cX4_init 8 = .ok (.dup, 1) := by decide +kernel
theorem dX4_init_9 : decode cX4_init 9 = .ok (.invokespecial 11, 3) := by decide +kernel
theorem dX4_init_12 : decode cX4_init 12 = .ok (.putfield 12, 3) := by decide +kernel
theorem dX4_init_15 : decode cX4_init 15 = .ok (.aload_n 0, 1) := by decide +kernel
theorem dX4_init_16 : decode cX4_init 16 = .ok (.new 16, 3) := by decide +kernel
theorem dX4_init_19 : decode cX4_init 19 = .ok (.dup, 1) := by decide +kernel
theorem dX4_init_20 : decode cX4_init 20 = .ok (.invokespecial 18, 3) := by decide +kernel
theorem dX4_init_23 : decode cX4_init 23 = .ok (.putfield 19, 3) := by decide +kernel
theorem dX4_init_26 : decode cX4_init 26 = .ok (.aload_n 0, 1) := by decide +kernel
theorem dX4_init_27 : decode cX4_init 27 = .ok (.new 23, 3) := by decide +kernel
theorem dX4_init_30 : decode cX4_init 30 = .ok (.dup, 1) := by decide +kernel
theorem dX4_init_31 : decode cX4_init 31 = .ok (.invokespecial 25, 3) := by decide +kernel
theorem dX4_init_34 : decode cX4_init 34 = .ok (.putfield 26, 3) := by decide +kernel
theorem dX4_init_37 : decode cX4_init 37 = .ok (.aload_n 0, 1) := by decide +kernel
theorem dX4_init_38 : decode cX4_init 38 = .ok (.new 30, 3) := by decide +kernel
theorem dX4_init_41 : decode cX4_init 41 = .ok (.dup, 1) := by decide +kernel
theorem dX4_init_42 : decode cX4_init 42 = .ok (.invokespecial 32, 3) := by decide +kernel
theorem dX4_init_45 : decode cX4_init 45 = .ok (.putfield 33, 3) := by decide +kernel
theorem dX4_init_48 : decode cX4_init 48 = .ok (.return_, 1) := by decide +kernel
theorem dX4_rule_0 : decode cX4_rule 0 = .ok (.iload_n 1, 1) := by decide +kernel
theorem dX4_rule_1 : decode cX4_rule 1 = .ok (.bipush 8, 2) := by decide +kernel
theorem dX4_rule_3 : decode cX4_rule 3 = .ok (.invokestatic 37, 3) := by decide +kernel
theorem dX4_rule_6 : decode cX4_rule 6 = .ok (.invokestatic 41, 3) := by decide +kernel
theorem dX4_rule_9 : decode cX4_rule 9 = .ok (.iload_n 2, 1) := by decide +kernel
theorem dX4_rule_10 : decode cX4_rule 10 = .ok (.sipush 20001, 3) := by decide +kernel
theorem dX4_rule_13 : decode cX4_rule 13 = .ok (.invokestatic 37, 3) := by decide +kernel
theorem dX4_rule_16 : decode cX4_rule 16 = .ok (.invokestatic 45, 3) := by decide +kernel
theorem dX4_rule_19 : decode cX4_rule 19 = .ok (.iload_n 3, 1) := by decide +kernel
theorem dX4_rule_20 : decode cX4_rule 20 = .ok (.ldc 48, 2) := by decide +kernel
theorem dX4_rule_22 : decode cX4_rule 22 = .ok (.invokestatic 37, 3) := by decide +kernel
theorem dX4_rule_25 : decode cX4_rule 25 = .ok (.invokestatic 45, 3) := by decide +kernel
theorem dX4_rule_28 : decode cX4_rule 28 = .ok (.iload 4, 2) := by decide +kernel
theorem dX4_rule_30 : decode cX4_rule 30 = .ok (.bipush 101, 2) := by decide +kernel
theorem dX4_rule_32 : decode cX4_rule 32 = .ok (.invokestatic 37, 3) := by decide +kernel
theorem dX4_rule_35 : decode cX4_rule 35 = .ok (.invokestatic 45, 3) := by decide +kernel
theorem dX4_rule_38 : decode cX4_rule 38 = .ok (.iload 5, 2) := by decide +kernel
theorem dX4_rule_40 : decode cX4_rule 40 = .ok (.iconst 1, 1) := by decide +kernel
theorem dX4_rule_41 : decode cX4_rule 41 = .ok (.if_icmp .lt 14, 3) := by decide +kernel
theorem dX4_rule_44 : decode cX4_rule 44 = .ok (.iload 5, 2) := by decide +kernel
theorem dX4_rule_46 : decode cX4_rule 46 = .ok (.bipush 100, 2) := by decide +kernel
theorem dX4_rule_48 : decode cX4_rule 48 = .ok (.if_icmp .gt 7, 3) := by decide +kernel
theorem dX4_rule_51 : decode cX4_rule 51 = .ok (.iconst 1, 1) := by decide +kernel
theorem dX4_rule_52 : decode cX4_rule 52 = .ok (.goto 4, 3) := by decide +kernel
theorem dX4_rule_55 : decode cX4_rule 55 = .ok (.iconst 0, 1) := by decide +kernel
theorem dX4_rule_56 : decode cX4_rule 56 = .ok (.invokestatic 45, 3) := by decide +kernel
theorem dX4_rule_59 : decode cX4_rule 59 = .ok (.aload_n 0, 1) := by decide +kernel
theorem dX4_rule_60 : decode cX4_rule 60 = .ok (.getfield 12, 3) := by decide +kernel
theorem dX4_rule_63 : decode cX4_rule 63 = .ok (.getfield 49, 3) := by decide +kernel
theorem dX4_rule_66 : decode cX4_rule 66 = .ok (.iload_n 1, 1) := by decide +kernel
theorem dX4_rule_67 : decode cX4_rule 67 = .ok (.iload_n 2, 1) := by decide +kernel
theorem dX4_rule_68 : decode cX4_rule 68 = .ok (.iastore, 1) := by decide +kernel
theorem dX4_rule_69 : decode cX4_rule 69 = .ok (.aload_n 0, 1) := by decide +kernel
theorem dX4_rule_70 : decode cX4_rule 70 = .ok (.getfield 12, 3) := by decide +kernel
theorem dX4_rule_73 : decode cX4_rule 73 = .ok (.getfield 53, 3) := by decide +kernel
theorem dX4_rule_76 : decode cX4_rule 76 = .ok (.iload_n 1, 1) := by decide +kernel
theorem dX4_rule_77 : decode cX4_rule 77 = .ok (.iload_n 3, 1) := by decide +kernel
theorem dX4_rule_78 : decode cX4_rule 78 = .ok (.iastore, 1) := by decide +kernel
theorem dX4_rule_79 : decode cX4_rule 79 = .ok (.aload_n 0, 1) := by decide +kernel
theorem dX4_rule_80 : decode cX4_rule 80 = .ok (.getfield 12, 3) := by decide +kernel
theorem dX4_rule_83 : decode cX4_rule 83 = .ok (.getfield 56, 3) := by decide +kernel
theorem dX4_rule_86 : decode cX4_rule 86 = .ok (.iload_n 1, 1) := by decide +kernel
theorem dX4_rule_87 : decode cX4_rule 87 = .ok (.iload 4, 2) := by decide +kernel
theorem dX4_rule_89 : decode cX4_rule 89 = .ok (.iastore, 1) := by decide +kernel
theorem dX4_rule_90 : decode cX4_rule 90 = .ok (.aload_n 0, 1) := by decide +kernel
theorem dX4_rule_91 : decode cX4_rule 91 = .ok (.getfield 12, 3) := by decide +kernel
theorem dX4_rule_94 : decode cX4_rule 94 = .ok (.getfield 59, 3) := by decide +kernel
theorem dX4_rule_97 : decode cX4_rule 97 = .ok (.iload_n 1, 1) := by decide +kernel
theorem dX4_rule_98 : decode cX4_rule 98 = .ok (.iload 5, 2) := by decide +kernel
theorem dX4_rule_100 : decode cX4_rule 100 = .ok (.iastore, 1) := by decide +kernel
theorem dX4_rule_101 : decode cX4_rule 101 = .ok (.return_, 1) := by decide +kernel
theorem dX4_weight_0 : decode cX4_weight 0 = .ok (.iload_n 1, 1) := by decide +kernel
theorem dX4_weight_1 : decode cX4_weight 1 = .ok (.bipush 8, 2) := by decide +kernel
theorem dX4_weight_3 : decode cX4_weight 3 = .ok (.invokestatic 37, 3) := by decide +kernel
theorem dX4_weight_6 : decode cX4_weight 6 = .ok (.ifCond .eq 16, 3) := by decide +kernel
theorem dX4_weight_9 : decode cX4_weight 9 = .ok (.iload_n 2, 1) := by decide +kernel
theorem dX4_weight_10 : decode cX4_weight 10 = .ok (.bipush 32, 2) := by decide +kernel
theorem dX4_weight_12 : decode cX4_weight 12 = .ok (.invokestatic 37, 3) := by decide +kernel
theorem dX4_weight_15 : decode cX4_weight 15 = .ok (.ifCond .eq 7, 3) := by decide +kernel
theorem dX4_weight_18 : decode cX4_weight 18 = .ok (.iconst 1, 1) := by decide +kernel
theorem dX4_weight_19 : decode cX4_weight 19 = .ok (.goto 4, 3) := by decide +kernel
theorem dX4_weight_22 : decode cX4_weight 22 = .ok (.iconst 0, 1) := by decide +kernel
theorem dX4_weight_23 : decode cX4_weight 23 = .ok (.invokestatic 41, 3) := by decide +kernel
theorem dX4_weight_26 : decode cX4_weight 26 = .ok (.iload_n 3, 1) := by decide +kernel
theorem dX4_weight_27 : decode cX4_weight 27 = .ok (.bipush 101, 2) := by decide +kernel
theorem dX4_weight_29 : decode cX4_weight 29 = .ok (.invokestatic 37, 3) := by decide +kernel
theorem dX4_weight_32 : decode cX4_weight 32 = .ok (.invokestatic 45, 3) := by decide +kernel
theorem dX4_weight_35 : decode cX4_weight 35 = .ok (.aload_n 0, 1) := by decide +kernel
theorem dX4_weight_36 : decode cX4_weight 36 = .ok (.getfield 12, 3) := by decide +kernel
theorem dX4_weight_39 : decode cX4_weight 39 = .ok (.getfield 62, 3) := by decide +kernel
theorem dX4_weight_42 : decode cX4_weight 42 = .ok (.iload_n 1, 1) := by decide +kernel
theorem dX4_weight_43 : decode cX4_weight 43 = .ok (.bipush 32, 2) := by decide +kernel
theorem dX4_weight_45 : decode cX4_weight 45 = .ok (.imul, 1) := by decide +kernel
theorem dX4_weight_46 : decode cX4_weight 46 = .ok (.iload_n 2, 1) := by decide +kernel
theorem dX4_weight_47 : decode cX4_weight 47 = .ok (.iadd, 1) := by decide +kernel
theorem dX4_weight_48 : decode cX4_weight 48 = .ok (.iload_n 3, 1) := by decide +kernel
theorem dX4_weight_49 : decode cX4_weight 49 = .ok (.iastore, 1) := by decide +kernel
theorem dX4_weight_50 : decode cX4_weight 50 = .ok (.return_, 1) := by decide +kernel
theorem dX4_point_0 : decode cX4_point 0 = .ok (.iload_n 1, 1) := by decide +kernel
theorem dX4_point_1 : decode cX4_point 1 = .ok (.bipush 8, 2) := by decide +kernel
theorem dX4_point_3 : decode cX4_point 3 = .ok (.invokestatic 37, 3) := by decide +kernel
theorem dX4_point_6 : decode cX4_point 6 = .ok (.invokestatic 41, 3) := by decide +kernel
theorem dX4_point_9 : decode cX4_point 9 = .ok (.iload_n 2, 1) := by decide +kernel
theorem dX4_point_10 : decode cX4_point 10 = .ok (.ldc 65, 2) := by decide +kernel
theorem dX4_point_12 : decode cX4_point 12 = .ok (.invokestatic 37, 3) := by decide +kernel
theorem dX4_point_15 : decode cX4_point 15 = .ok (.invokestatic 45, 3) := by decide +kernel
theorem dX4_point_18 : decode cX4_point 18 = .ok (.aload_n 0, 1) := by decide +kernel
theorem dX4_point_19 : decode cX4_point 19 = .ok (.getfield 19, 3) := by decide +kernel
theorem dX4_point_22 : decode cX4_point 22 = .ok (.getfield 66, 3) := by decide +kernel
theorem dX4_point_25 : decode cX4_point 25 = .ok (.iload_n 1, 1) := by decide +kernel
theorem dX4_point_26 : decode cX4_point 26 = .ok (.iaload, 1) := by decide +kernel
theorem dX4_point_27 : decode cX4_point 27 = .ok (.bipush 8, 2) := by decide +kernel
theorem dX4_point_29 : decode cX4_point 29 = .ok (.if_icmp .ge 7, 3) := by decide +kernel
theorem dX4_point_32 : decode cX4_point 32 = .ok (.iconst 1, 1) := by decide +kernel
theorem dX4_point_33 : decode cX4_point 33 = .ok (.goto 4, 3) := by decide +kernel
theorem dX4_point_36 : decode cX4_point 36 = .ok (.iconst 0, 1) := by decide +kernel
theorem dX4_point_37 : decode cX4_point 37 = .ok (.invokestatic 69, 3) := by decide +kernel
theorem dX4_point_40 : decode cX4_point 40 = .ok (.aload_n 0, 1) := by decide +kernel
theorem dX4_point_41 : decode cX4_point 41 = .ok (.getfield 19, 3) := by decide +kernel
theorem dX4_point_44 : decode cX4_point 44 = .ok (.iload_n 1, 1) := by decide +kernel
theorem dX4_point_45 : decode cX4_point 45 = .ok (.iload_n 2, 1) := by decide +kernel
theorem dX4_point_46 : decode cX4_point 46 = .ok (.invokevirtual 72, 3) := by decide +kernel
theorem dX4_point_49 : decode cX4_point 49 = .ok (.ireturn, 1) := by decide +kernel
theorem dX4_call_0 : decode cX4_call 0 = .ok (.aload_n 0, 1) := by decide +kernel
theorem dX4_call_1 : decode cX4_call 1 = .ok (.iload_n 1, 1) := by decide +kernel
theorem dX4_call_2 : decode cX4_call 2 = .ok (.iload_n 2, 1) := by decide +kernel
theorem dX4_call_3 : decode cX4_call 3 = .ok (.iload_n 3, 1) := by decide +kernel
theorem dX4_call_4 : decode cX4_call 4 = .ok (.iload 5, 2) := by decide +kernel
theorem dX4_call_6 : decode cX4_call 6 = .ok (.iload 6, 2) := by decide +kernel
theorem dX4_call_8 : decode cX4_call 8 = .ok (.invokevirtual 76, 3) := by decide +kernel
theorem dX4_call_11 : decode cX4_call 11 = .ok (.aload_n 0, 1) := by decide +kernel
theorem dX4_call_12 : decode cX4_call 12 = .ok (.getfield 26, 3) := by decide +kernel
theorem dX4_call_15 : decode cX4_call 15 = .ok (.getfield 80, 3) := by decide +kernel
theorem dX4_call_18 : decode cX4_call 18 = .ok (.bipush 120, 2) := by decide +kernel
theorem dX4_call_20 : decode cX4_call 20 = .ok (.if_icmp .ge 7, 3) := by decide +kernel
theorem dX4_call_23 : decode cX4_call 23 = .ok (.iconst 1, 1) := by decide +kernel
theorem dX4_call_24 : decode cX4_call 24 = .ok (.goto 4, 3) := by decide +kernel
theorem dX4_call_27 : decode cX4_call 27 = .ok (.iconst 0, 1) := by decide +kernel
theorem dX4_call_28 : decode cX4_call 28 = .ok (.invokestatic 69, 3) := by decide +kernel
theorem dX4_call_31 : decode cX4_call 31 = .ok (.aload_n 0, 1) := by decide +kernel
theorem dX4_call_32 : decode cX4_call 32 = .ok (.getfield 26, 3) := by decide +kernel
theorem dX4_call_35 : decode cX4_call 35 = .ok (.iload_n 1, 1) := by decide +kernel
theorem dX4_call_36 : decode cX4_call 36 = .ok (.iload_n 2, 1) := by decide +kernel
theorem dX4_call_37 : decode cX4_call 37 = .ok (.iload_n 3, 1) := by decide +kernel
theorem dX4_call_38 : decode cX4_call 38 = .ok (.iload 4, 2) := by decide +kernel
theorem dX4_call_40 : decode cX4_call 40 = .ok (.iload 5, 2) := by decide +kernel
theorem dX4_call_42 : decode cX4_call 42 = .ok (.iload 6, 2) := by decide +kernel
theorem dX4_call_44 : decode cX4_call 44 = .ok (.invokevirtual 83, 3) := by decide +kernel
theorem dX4_call_47 : decode cX4_call 47 = .ok (.istore 7, 2) := by decide +kernel
theorem dX4_call_49 : decode cX4_call 49 = .ok (.aload_n 0, 1) := by decide +kernel
theorem dX4_call_50 : decode cX4_call 50 = .ok (.iload 7, 2) := by decide +kernel
theorem dX4_call_52 : decode cX4_call 52 = .ok (.invokevirtual 87, 3) := by decide +kernel
theorem dX4_call_55 : decode cX4_call 55 = .ok (.aload_n 0, 1) := by decide +kernel
theorem dX4_call_56 : decode cX4_call 56 = .ok (.getfield 26, 3) := by decide +kernel
theorem dX4_call_59 : decode cX4_call 59 = .ok (.getfield 91, 3) := by decide +kernel
theorem dX4_call_62 : decode cX4_call 62 = .ok (.iload 7, 2) := by decide +kernel
theorem dX4_call_64 : decode cX4_call 64 = .ok (.iaload, 1) := by decide +kernel
theorem dX4_call_65 : decode cX4_call 65 = .ok (.istore 8, 2) := by decide +kernel
theorem dX4_call_67 : decode cX4_call 67 = .ok (.iload 8, 2) := by decide +kernel
theorem dX4_call_69 : decode cX4_call 69 = .ok (.iconst (-1), 1) := by decide +kernel
theorem dX4_call_70 : decode cX4_call 70 = .ok (.if_icmp .ne 46, 3) := by decide +kernel
theorem dX4_call_73 : decode cX4_call 73 = .ok (.aload_n 0, 1) := by decide +kernel
theorem dX4_call_74 : decode cX4_call 74 = .ok (.getfield 33, 3) := by decide +kernel
theorem dX4_call_77 : decode cX4_call 77 = .ok (.getfield 94, 3) := by decide +kernel
theorem dX4_call_80 : decode cX4_call 80 = .ok (.bipush 60, 2) := by decide +kernel
theorem dX4_call_82 : decode cX4_call 82 = .ok (.if_icmp .ge 7, 3) := by decide +kernel
theorem dX4_call_85 : decode cX4_call 85 = .ok (.iconst 1, 1) := by decide +kernel
theorem dX4_call_86 : decode cX4_call 86 = .ok (.goto 4, 3) := by decide +kernel
theorem dX4_call_89 : decode cX4_call 89 = .ok (.iconst 0, 1) := by decide +kernel
theorem dX4_call_90 : decode cX4_call 90 = .ok (.invokestatic 69, 3) := by decide +kernel
theorem dX4_call_93 : decode cX4_call 93 = .ok (.aload_n 0, 1) := by decide +kernel
theorem dX4_call_94 : decode cX4_call 94 = .ok (.getfield 26, 3) := by decide +kernel
theorem dX4_call_97 : decode cX4_call 97 = .ok (.getfield 95, 3) := by decide +kernel
theorem dX4_call_100 : decode cX4_call 100 = .ok (.iload 7, 2) := by decide +kernel
theorem dX4_call_102 : decode cX4_call 102 = .ok (.aload_n 0, 1) := by decide +kernel
theorem dX4_call_103 : decode cX4_call 103 = .ok (.getfield 33, 3) := by decide +kernel
theorem dX4_call_106 : decode cX4_call 106 = .ok (.iload_n 2, 1) := by decide +kernel
theorem dX4_call_107 : decode cX4_call 107 = .ok (.iload 7, 2) := by decide +kernel
theorem dX4_call_109 : decode cX4_call 109 = .ok (.invokevirtual 98, 3) := by decide +kernel
theorem dX4_call_112 : decode cX4_call 112 = .ok (.iastore, 1) := by decide +kernel
theorem dX4_call_113 : decode cX4_call 113 = .ok (.goto 23, 3) := by decide +kernel
theorem dX4_call_116 : decode cX4_call 116 = .ok (.aload_n 0, 1) := by decide +kernel
theorem dX4_call_117 : decode cX4_call 117 = .ok (.getfield 26, 3) := by decide +kernel
theorem dX4_call_120 : decode cX4_call 120 = .ok (.getfield 95, 3) := by decide +kernel
theorem dX4_call_123 : decode cX4_call 123 = .ok (.iload 7, 2) := by decide +kernel
theorem dX4_call_125 : decode cX4_call 125 = .ok (.aload_n 0, 1) := by decide +kernel
theorem dX4_call_126 : decode cX4_call 126 = .ok (.getfield 26, 3) := by decide +kernel
theorem dX4_call_129 : decode cX4_call 129 = .ok (.getfield 95, 3) := by decide +kernel
theorem dX4_call_132 : decode cX4_call 132 = .ok (.iload 8, 2) := by decide +kernel
theorem dX4_call_134 : decode cX4_call 134 = .ok (.iaload, 1) := by decide +kernel
theorem dX4_call_135 : decode cX4_call 135 = .ok (.iastore, 1) := by decide +kernel
theorem dX4_call_136 : decode cX4_call 136 = .ok (.aload_n 0, 1) := by decide +kernel
theorem dX4_call_137 : decode cX4_call 137 = .ok (.getfield 26, 3) := by decide +kernel
theorem dX4_call_140 : decode cX4_call 140 = .ok (.dup, 1) := by decide +kernel
theorem dX4_call_141 : decode cX4_call 141 = .ok (.getfield 80, 3) := by decide +kernel
theorem dX4_call_144 : decode cX4_call 144 = .ok (.iconst 1, 1) := by decide +kernel
theorem dX4_call_145 : decode cX4_call 145 = .ok (.iadd, 1) := by decide +kernel
theorem dX4_call_146 : decode cX4_call 146 = .ok (.putfield 80, 3) := by decide +kernel
theorem dX4_call_149 : decode cX4_call 149 = .ok (.iload 7, 2) := by decide +kernel
theorem dX4_call_151 : decode cX4_call 151 = .ok (.ireturn, 1) := by decide +kernel
theorem dX4_reasonFor_0 : decode cX4_reasonFor 0 = .ok (.aload_n 0, 1) := by decide +kernel
theorem dX4_reasonFor_1 : decode cX4_reasonFor 1 = .ok (.iload_n 1, 1) := by decide +kernel
theorem dX4_reasonFor_2 : decode cX4_reasonFor 2 = .ok (.iload_n 2, 1) := by decide +kernel
theorem dX4_reasonFor_3 : decode cX4_reasonFor 3 = .ok (.iload_n 3, 1) := by decide +kernel
theorem dX4_reasonFor_4 : decode cX4_reasonFor 4 = .ok (.iload 5, 2) := by decide +kernel
theorem dX4_reasonFor_6 : decode cX4_reasonFor 6 = .ok (.iload 6, 2) := by decide +kernel
theorem dX4_reasonFor_8 : decode cX4_reasonFor 8 = .ok (.invokevirtual 76, 3) := by decide +kernel
theorem dX4_reasonFor_11 : decode cX4_reasonFor 11 = .ok (.aload_n 0, 1) := by decide +kernel
theorem dX4_reasonFor_12 : decode cX4_reasonFor 12 = .ok (.getfield 26, 3) := by decide +kernel
theorem dX4_reasonFor_15 : decode cX4_reasonFor 15 = .ok (.iload_n 1, 1) := by decide +kernel
theorem dX4_reasonFor_16 : decode cX4_reasonFor 16 = .ok (.iload_n 2, 1) := by decide +kernel
theorem dX4_reasonFor_17 : decode cX4_reasonFor 17 = .ok (.iload_n 3, 1) := by decide +kernel
theorem dX4_reasonFor_18 : decode cX4_reasonFor 18 = .ok (.iload 4, 2) := by decide +kernel
theorem dX4_reasonFor_20 : decode cX4_reasonFor 20 = .ok (.iload 5, 2) := by decide +kernel
theorem dX4_reasonFor_22 : decode cX4_reasonFor 22 = .ok (.iload 6, 2) := by decide +kernel
theorem dX4_reasonFor_24 : decode cX4_reasonFor 24 = .ok (.invokevirtual 83, 3) := by decide +kernel
theorem dX4_reasonFor_27 : decode cX4_reasonFor 27 = .ok (.istore 7, 2) := by decide +kernel
theorem dX4_reasonFor_29 : decode cX4_reasonFor 29 = .ok (.aload_n 0, 1) := by decide +kernel
theorem dX4_reasonFor_30 : decode cX4_reasonFor 30 = .ok (.iload 7, 2) := by decide +kernel
theorem dX4_reasonFor_32 : decode cX4_reasonFor 32 = .ok (.invokevirtual 87, 3) := by decide +kernel
theorem dX4_reasonFor_35 : decode cX4_reasonFor 35 = .ok (.aload_n 0, 1) := by decide +kernel
theorem dX4_reasonFor_36 : decode cX4_reasonFor 36 = .ok (.getfield 26, 3) := by decide +kernel
theorem dX4_reasonFor_39 : decode cX4_reasonFor 39 = .ok (.getfield 91, 3) := by decide +kernel
theorem dX4_reasonFor_42 : decode cX4_reasonFor 42 = .ok (.iload 7, 2) := by decide +kernel
theorem dX4_reasonFor_44 : decode cX4_reasonFor 44 = .ok (.iaload, 1) := by decide +kernel
theorem dX4_reasonFor_45 : decode cX4_reasonFor 45 = .ok (.ireturn, 1) := by decide +kernel
theorem dX4_mark_0 : decode cX4_mark 0 = .ok (.iload_n 1, 1) := by decide +kernel
theorem dX4_mark_1 : decode cX4_mark 1 = .ok (.aload_n 0, 1) := by decide +kernel
theorem dX4_mark_2 : decode cX4_mark 2 = .ok (.getfield 26, 3) := by decide +kernel
theorem dX4_mark_5 : decode cX4_mark 5 = .ok (.getfield 80, 3) := by decide +kernel
theorem dX4_mark_8 : decode cX4_mark 8 = .ok (.invokestatic 37, 3) := by decide +kernel
theorem dX4_mark_11 : decode cX4_mark 11 = .ok (.invokestatic 41, 3) := by decide +kernel
theorem dX4_mark_14 : decode cX4_mark 14 = .ok (.iload_n 2, 1) := by decide +kernel
theorem dX4_mark_15 : decode cX4_mark 15 = .ok (.bipush 8, 2) := by decide +kernel
theorem dX4_mark_17 : decode cX4_mark 17 = .ok (.invokestatic 37, 3) := by decide +kernel
theorem dX4_mark_20 : decode cX4_mark 20 = .ok (.invokestatic 45, 3) := by decide +kernel
theorem dX4_mark_23 : decode cX4_mark 23 = .ok (.aload_n 0, 1) := by decide +kernel
theorem dX4_mark_24 : decode cX4_mark 24 = .ok (.getfield 26, 3) := by decide +kernel
theorem dX4_mark_27 : decode cX4_mark 27 = .ok (.getfield 101, 3) := by decide +kernel
theorem dX4_mark_30 : decode cX4_mark 30 = .ok (.iload_n 1, 1) := by decide +kernel
theorem dX4_mark_31 : decode cX4_mark 31 = .ok (.iload_n 2, 1) := by decide +kernel
theorem dX4_mark_32 : decode cX4_mark 32 = .ok (.iastore, 1) := by decide +kernel
theorem dX4_mark_33 : decode cX4_mark 33 = .ok (.return_, 1) := by decide +kernel
theorem dX4_split_0 : decode cX4_split 0 = .ok (.iload_n 1, 1) := by decide +kernel
theorem dX4_split_1 : decode cX4_split 1 = .ok (.aload_n 0, 1) := by decide +kernel
theorem dX4_split_2 : decode cX4_split 2 = .ok (.getfield 26, 3) := by decide +kernel
theorem dX4_split_5 : decode cX4_split 5 = .ok (.getfield 80, 3) := by decide +kernel
theorem dX4_split_8 : decode cX4_split 8 = .ok (.invokestatic 37, 3) := by decide +kernel
theorem dX4_split_11 : decode cX4_split 11 = .ok (.invokestatic 41, 3) := by decide +kernel
theorem dX4_split_14 : decode cX4_split 14 = .ok (.aload_n 0, 1) := by decide +kernel
theorem dX4_split_15 : decode cX4_split 15 = .ok (.getfield 26, 3) := by decide +kernel
theorem dX4_split_18 : decode cX4_split 18 = .ok (.getfield 91, 3) := by decide +kernel
theorem dX4_split_21 : decode cX4_split 21 = .ok (.iload_n 1, 1) := by decide +kernel
theorem dX4_split_22 : decode cX4_split 22 = .ok (.iaload, 1) := by decide +kernel
theorem dX4_split_23 : decode cX4_split 23 = .ok (.iconst (-1), 1) := by decide +kernel
theorem dX4_split_24 : decode cX4_split 24 = .ok (.if_icmp .eq 15, 3) := by decide +kernel
theorem dX4_split_27 : decode cX4_split 27 = .ok (.aload_n 0, 1) := by decide +kernel
theorem dX4_split_28 : decode cX4_split 28 = .ok (.iload_n 1, 1) := by decide +kernel
theorem dX4_split_29 : decode cX4_split 29 = .ok (.invokevirtual 104, 3) := by decide +kernel
theorem dX4_split_32 : decode cX4_split 32 = .ok (.ifCond .eq 7, 3) := by decide +kernel
theorem dX4_split_35 : decode cX4_split 35 = .ok (.iconst 1, 1) := by decide +kernel
theorem dX4_split_36 : decode cX4_split 36 = .ok (.goto 4, 3) := by decide +kernel
theorem dX4_split_39 : decode cX4_split 39 = .ok (.iconst 0, 1) := by decide +kernel
theorem dX4_split_40 : decode cX4_split 40 = .ok (.invokestatic 108, 3) := by decide +kernel
theorem dX4_split_43 : decode cX4_split 43 = .ok (.aload_n 0, 1) := by decide +kernel
theorem dX4_split_44 : decode cX4_split 44 = .ok (.getfield 33, 3) := by decide +kernel
theorem dX4_split_47 : decode cX4_split 47 = .ok (.getfield 94, 3) := by decide +kernel
theorem dX4_split_50 : decode cX4_split 50 = .ok (.bipush 60, 2) := by decide +kernel
theorem dX4_split_52 : decode cX4_split 52 = .ok (.if_icmp .ge 7, 3) := by decide +kernel
theorem dX4_split_55 : decode cX4_split 55 = .ok (.iconst 1, 1) := by decide +kernel
theorem dX4_split_56 : decode cX4_split 56 = .ok (.goto 4, 3) := by decide +kernel
theorem dX4_split_59 : decode cX4_split 59 = .ok (.iconst 0, 1) := by decide +kernel
theorem dX4_split_60 : decode cX4_split 60 = .ok (.invokestatic 69, 3) := by decide +kernel
theorem dX4_split_63 : decode cX4_split 63 = .ok (.aload_n 0, 1) := by decide +kernel
theorem dX4_split_64 : decode cX4_split 64 = .ok (.getfield 33, 3) := by decide +kernel
theorem dX4_split_67 : decode cX4_split 67 = .ok (.aload_n 0, 1) := by decide +kernel
theorem dX4_split_68 : decode cX4_split 68 = .ok (.getfield 26, 3) := by decide +kernel
theorem dX4_split_71 : decode cX4_split 71 = .ok (.getfield 111, 3) := by decide +kernel
theorem dX4_split_74 : decode cX4_split 74 = .ok (.iload_n 1, 1) := by decide +kernel
theorem dX4_split_75 : decode cX4_split 75 = .ok (.iaload, 1) := by decide +kernel
theorem dX4_split_76 : decode cX4_split 76 = .ok (.iload_n 1, 1) := by decide +kernel
theorem dX4_split_77 : decode cX4_split 77 = .ok (.invokevirtual 98, 3) := by decide +kernel
theorem dX4_split_80 : decode cX4_split 80 = .ok (.istore_n 2, 1) := by decide +kernel
theorem dX4_split_81 : decode cX4_split 81 = .ok (.aload_n 0, 1) := by decide +kernel
theorem dX4_split_82 : decode cX4_split 82 = .ok (.getfield 26, 3) := by decide +kernel
theorem dX4_split_85 : decode cX4_split 85 = .ok (.iload_n 1, 1) := by decide +kernel
theorem dX4_split_86 : decode cX4_split 86 = .ok (.iload_n 2, 1) := by decide +kernel
theorem dX4_split_87 : decode cX4_split 87 = .ok (.invokevirtual 114, 3) := by decide +kernel
theorem dX4_split_90 : decode cX4_split 90 = .ok (.aload_n 0, 1) := by decide +kernel
theorem dX4_split_91 : decode cX4_split 91 = .ok (.getfield 26, 3) := by decide +kernel
theorem dX4_split_94 : decode cX4_split 94 = .ok (.getfield 91, 3) := by decide +kernel
theorem dX4_split_97 : decode cX4_split 97 = .ok (.iload_n 1, 1) := by decide +kernel
theorem dX4_split_98 : decode cX4_split 98 = .ok (.iconst (-1), 1) := by decide +kernel
theorem dX4_split_99 : decode cX4_split 99 = .ok (.iastore, 1) := by decide +kernel
theorem dX4_split_100 : decode cX4_split 100 = .ok (.aload_n 0, 1) := by decide +kernel
theorem dX4_split_101 : decode cX4_split 101 = .ok (.getfield 26, 3) := by decide +kernel
theorem dX4_split_104 : decode cX4_split 104 = .ok (.getfield 118, 3) := by decide +kernel
theorem dX4_split_107 : decode cX4_split 107 = .ok (.iload_n 1, 1) := by decide +kernel
theorem dX4_split_108 : decode cX4_split 108 = .ok (.iconst 0, 1) := by decide +kernel
theorem dX4_split_109 : decode cX4_split 109 = .ok (.iastore, 1) := by decide +kernel
theorem dX4_split_110 : decode cX4_split 110 = .ok (.iload_n 2, 1) := by decide +kernel
theorem dX4_split_111 : decode cX4_split 111 = .ok (.ireturn, 1) := by decide +kernel
theorem dX4_merge_0 : decode cX4_merge 0 = .ok (.iload_n 1, 1) := by decide +kernel
theorem dX4_merge_1 : decode cX4_merge 1 = .ok (.aload_n 0, 1) := by decide +kernel
theorem dX4_merge_2 : decode cX4_merge 2 = .ok (.getfield 33, 3) := by decide +kernel
theorem dX4_merge_5 : decode cX4_merge 5 = .ok (.getfield 94, 3) := by decide +kernel
theorem dX4_merge_8 : decode cX4_merge 8 = .ok (.invokestatic 37, 3) := by decide +kernel
theorem dX4_merge_11 : decode cX4_merge 11 = .ok (.ifCond .eq 21, 3) := by decide +kernel
theorem dX4_merge_14 : decode cX4_merge 14 = .ok (.iload_n 2, 1) := by decide +kernel
theorem dX4_merge_15 : decode cX4_merge 15 = .ok (.aload_n 0, 1) := by decide +kernel
theorem dX4_merge_16 : decode cX4_merge 16 = .ok (.getfield 26, 3) := by decide +kernel
theorem dX4_merge_19 : decode cX4_merge 19 = .ok (.getfield 80, 3) := by decide +kernel
theorem dX4_merge_22 : decode cX4_merge 22 = .ok (.invokestatic 37, 3) := by decide +kernel
theorem dX4_merge_25 : decode cX4_merge 25 = .ok (.ifCond .eq 7, 3) := by decide +kernel
theorem dX4_merge_28 : decode cX4_merge 28 = .ok (.iconst 1, 1) := by decide +kernel
theorem dX4_merge_29 : decode cX4_merge 29 = .ok (.goto 4, 3) := by decide +kernel
theorem dX4_merge_32 : decode cX4_merge 32 = .ok (.iconst 0, 1) := by decide +kernel
theorem dX4_merge_33 : decode cX4_merge 33 = .ok (.invokestatic 41, 3) := by decide +kernel
theorem dX4_merge_36 : decode cX4_merge 36 = .ok (.aload_n 0, 1) := by decide +kernel
theorem dX4_merge_37 : decode cX4_merge 37 = .ok (.getfield 26, 3) := by decide +kernel
theorem dX4_merge_40 : decode cX4_merge 40 = .ok (.getfield 95, 3) := by decide +kernel
theorem dX4_merge_43 : decode cX4_merge 43 = .ok (.iload_n 2, 1) := by decide +kernel
theorem dX4_merge_44 : decode cX4_merge 44 = .ok (.iaload, 1) := by decide +kernel
theorem dX4_merge_45 : decode cX4_merge 45 = .ok (.istore_n 3, 1) := by decide +kernel
theorem dX4_merge_46 : decode cX4_merge 46 = .ok (.aload_n 0, 1) := by decide +kernel
theorem dX4_merge_47 : decode cX4_merge 47 = .ok (.getfield 33, 3) := by decide +kernel
theorem dX4_merge_50 : decode cX4_merge 50 = .ok (.getfield 121, 3) := by decide +kernel
theorem dX4_merge_53 : decode cX4_merge 53 = .ok (.iload_n 1, 1) := by decide +kernel
theorem dX4_merge_54 : decode cX4_merge 54 = .ok (.iaload, 1) := by decide +kernel
theorem dX4_merge_55 : decode cX4_merge 55 = .ok (.ifCond .ne 24, 3) := by decide +kernel
theorem dX4_merge_58 : decode cX4_merge 58 = .ok (.aload_n 0, 1) := by decide +kernel
theorem dX4_merge_59 : decode cX4_merge 59 = .ok (.getfield 33, 3) := by decide +kernel
theorem dX4_merge_62 : decode cX4_merge 62 = .ok (.getfield 121, 3) := by decide +kernel
theorem dX4_merge_65 : decode cX4_merge 65 = .ok (.iload_n 3, 1) := by decide +kernel
theorem dX4_merge_66 : decode cX4_merge 66 = .ok (.iaload, 1) := by decide +kernel
theorem dX4_merge_67 : decode cX4_merge 67 = .ok (.ifCond .ne 12, 3) := by decide +kernel
theorem dX4_merge_70 : decode cX4_merge 70 = .ok (.iload_n 1, 1) := by decide +kernel
theorem dX4_merge_71 : decode cX4_merge 71 = .ok (.iload_n 3, 1) := by decide +kernel
theorem dX4_merge_72 : decode cX4_merge 72 = .ok (.if_icmp .eq 7, 3) := by decide +kernel
theorem dX4_merge_75 : decode cX4_merge 75 = .ok (.iconst 1, 1) := by decide +kernel
theorem dX4_merge_76 : decode cX4_merge 76 = .ok (.goto 4, 3) := by decide +kernel
theorem dX4_merge_79 : decode cX4_merge 79 = .ok (.iconst 0, 1) := by decide +kernel
theorem dX4_merge_80 : decode cX4_merge 80 = .ok (.invokestatic 108, 3) := by decide +kernel
theorem dX4_merge_83 : decode cX4_merge 83 = .ok (.aload_n 0, 1) := by decide +kernel
theorem dX4_merge_84 : decode cX4_merge 84 = .ok (.getfield 33, 3) := by decide +kernel
theorem dX4_merge_87 : decode cX4_merge 87 = .ok (.getfield 124, 3) := by decide +kernel
theorem dX4_merge_90 : decode cX4_merge 90 = .ok (.iload_n 1, 1) := by decide +kernel
theorem dX4_merge_91 : decode cX4_merge 91 = .ok (.iaload, 1) := by decide +kernel
theorem dX4_merge_92 : decode cX4_merge 92 = .ok (.istore 4, 2) := by decide +kernel
theorem dX4_merge_94 : decode cX4_merge 94 = .ok (.aload_n 0, 1) := by decide +kernel
theorem dX4_merge_95 : decode cX4_merge 95 = .ok (.getfield 26, 3) := by decide +kernel
theorem dX4_merge_98 : decode cX4_merge 98 = .ok (.getfield 91, 3) := by decide +kernel
theorem dX4_merge_101 : decode cX4_merge 101 = .ok (.iload 4, 2) := by decide +kernel
theorem dX4_merge_103 : decode cX4_merge 103 = .ok (.iload_n 2, 1) := by decide +kernel
theorem dX4_merge_104 : decode cX4_merge 104 = .ok (.iastore, 1) := by decide +kernel
theorem dX4_merge_105 : decode cX4_merge 105 = .ok (.aload_n 0, 1) := by decide +kernel
theorem dX4_merge_106 : decode cX4_merge 106 = .ok (.getfield 26, 3) := by decide +kernel
theorem dX4_merge_109 : decode cX4_merge 109 = .ok (.getfield 118, 3) := by decide +kernel
theorem dX4_merge_112 : decode cX4_merge 112 = .ok (.iload 4, 2) := by decide +kernel
theorem dX4_merge_114 : decode cX4_merge 114 = .ok (.iconst 5, 1) := by decide +kernel
theorem dX4_merge_115 : decode cX4_merge 115 = .ok (.iastore, 1) := by decide +kernel
theorem dX4_merge_116 : decode cX4_merge 116 = .ok (.aload_n 0, 1) := by decide +kernel
theorem dX4_merge_117 : decode cX4_merge 117 = .ok (.getfield 26, 3) := by decide +kernel
theorem dX4_merge_120 : decode cX4_merge 120 = .ok (.iload_n 1, 1) := by decide +kernel
theorem dX4_merge_121 : decode cX4_merge 121 = .ok (.iload_n 3, 1) := by decide +kernel
theorem dX4_merge_122 : decode cX4_merge 122 = .ok (.invokevirtual 127, 3) := by decide +kernel
theorem dX4_merge_125 : decode cX4_merge 125 = .ok (.aload_n 0, 1) := by decide +kernel
theorem dX4_merge_126 : decode cX4_merge 126 = .ok (.getfield 33, 3) := by decide +kernel
theorem dX4_merge_129 : decode cX4_merge 129 = .ok (.getfield 121, 3) := by decide +kernel
theorem dX4_merge_132 : decode cX4_merge 132 = .ok (.iload_n 1, 1) := by decide +kernel
theorem dX4_merge_133 : decode cX4_merge 133 = .ok (.iconst 3, 1) := by decide +kernel
theorem dX4_merge_134 : decode cX4_merge 134 = .ok (.iastore, 1) := by decide +kernel
theorem dX4_merge_135 : decode cX4_merge 135 = .ok (.aload_n 0, 1) := by decide +kernel
theorem dX4_merge_136 : decode cX4_merge 136 = .ok (.getfield 33, 3) := by decide +kernel
theorem dX4_merge_139 : decode cX4_merge 139 = .ok (.getfield 124, 3) := by decide +kernel
theorem dX4_merge_142 : decode cX4_merge 142 = .ok (.iload_n 1, 1) := by decide +kernel
theorem dX4_merge_143 : decode cX4_merge 143 = .ok (.iconst (-1), 1) := by decide +kernel
theorem dX4_merge_144 : decode cX4_merge 144 = .ok (.iastore, 1) := by decide +kernel
theorem dX4_merge_145 : decode cX4_merge 145 = .ok (.aload_n 0, 1) := by decide +kernel
theorem dX4_merge_146 : decode cX4_merge 146 = .ok (.getfield 26, 3) := by decide +kernel
theorem dX4_merge_149 : decode cX4_merge 149 = .ok (.iload_n 3, 1) := by decide +kernel
theorem dX4_merge_150 : decode cX4_merge 150 = .ok (.invokevirtual 130, 3) := by decide +kernel
theorem dX4_merge_153 : decode cX4_merge 153 = .ok (.ireturn, 1) := by decide +kernel
theorem dX4_watch_0 : decode cX4_watch 0 = .ok (.iload_n 1, 1) := by decide +kernel
theorem dX4_watch_1 : decode cX4_watch 1 = .ok (.aload_n 0, 1) := by decide +kernel
theorem dX4_watch_2 : decode cX4_watch 2 = .ok (.getfield 33, 3) := by decide +kernel
theorem dX4_watch_5 : decode cX4_watch 5 = .ok (.getfield 94, 3) := by decide +kernel
theorem dX4_watch_8 : decode cX4_watch 8 = .ok (.invokestatic 37, 3) := by decide +kernel
theorem dX4_watch_11 : decode cX4_watch 11 = .ok (.ifCond .eq 16, 3) := by decide +kernel
theorem dX4_watch_14 : decode cX4_watch 14 = .ok (.iload_n 2, 1) := by decide +kernel
theorem dX4_watch_15 : decode cX4_watch 15 = .ok (.bipush 8, 2) := by decide +kernel
theorem dX4_watch_17 : decode cX4_watch 17 = .ok (.invokestatic 37, 3) := by decide +kernel
theorem dX4_watch_20 : decode cX4_watch 20 = .ok (.ifCond .eq 7, 3) := by decide +kernel
theorem dX4_watch_23 : decode cX4_watch 23 = .ok (.iconst 1, 1) := by decide +kernel
theorem dX4_watch_24 : decode cX4_watch 24 = .ok (.goto 4, 3) := by decide +kernel
theorem dX4_watch_27 : decode cX4_watch 27 = .ok (.iconst 0, 1) := by decide +kernel
theorem dX4_watch_28 : decode cX4_watch 28 = .ok (.invokestatic 41, 3) := by decide +kernel
theorem dX4_watch_31 : decode cX4_watch 31 = .ok (.iload_n 3, 1) := by decide +kernel
theorem dX4_watch_32 : decode cX4_watch 32 = .ok (.aload_n 0, 1) := by decide +kernel
theorem dX4_watch_33 : decode cX4_watch 33 = .ok (.getfield 19, 3) := by decide +kernel
theorem dX4_watch_36 : decode cX4_watch 36 = .ok (.getfield 66, 3) := by decide +kernel
theorem dX4_watch_39 : decode cX4_watch 39 = .ok (.iload_n 2, 1) := by decide +kernel
theorem dX4_watch_40 : decode cX4_watch 40 = .ok (.iaload, 1) := by decide +kernel
theorem dX4_watch_41 : decode cX4_watch 41 = .ok (.invokestatic 37, 3) := by decide +kernel
theorem dX4_watch_44 : decode cX4_watch 44 = .ok (.ifCond .eq 30, 3) := by decide +kernel
theorem dX4_watch_47 : decode cX4_watch 47 = .ok (.iload 4, 2) := by decide +kernel
theorem dX4_watch_49 : decode cX4_watch 49 = .ok (.aload_n 0, 1) := by decide +kernel
theorem dX4_watch_50 : decode cX4_watch 50 = .ok (.getfield 19, 3) := by decide +kernel
theorem dX4_watch_53 : decode cX4_watch 53 = .ok (.getfield 66, 3) := by decide +kernel
theorem dX4_watch_56 : decode cX4_watch 56 = .ok (.iload_n 2, 1) := by decide +kernel
theorem dX4_watch_57 : decode cX4_watch 57 = .ok (.iaload, 1) := by decide +kernel
theorem dX4_watch_58 : decode cX4_watch 58 = .ok (.invokestatic 37, 3) := by decide +kernel
theorem dX4_watch_61 : decode cX4_watch 61 = .ok (.ifCond .eq 13, 3) := by decide +kernel
theorem dX4_watch_64 : decode cX4_watch 64 = .ok (.iload_n 3, 1) := by decide +kernel
theorem dX4_watch_65 : decode cX4_watch 65 = .ok (.iload 4, 2) := by decide +kernel
theorem dX4_watch_67 : decode cX4_watch 67 = .ok (.if_icmp .eq 7, 3) := by decide +kernel
theorem dX4_watch_70 : decode cX4_watch 70 = .ok (.iconst 1, 1) := by decide +kernel
theorem dX4_watch_71 : decode cX4_watch 71 = .ok (.goto 4, 3) := by decide +kernel
theorem dX4_watch_74 : decode cX4_watch 74 = .ok (.iconst 0, 1) := by decide +kernel
theorem dX4_watch_75 : decode cX4_watch 75 = .ok (.invokestatic 45, 3) := by decide +kernel
theorem dX4_watch_78 : decode cX4_watch 78 = .ok (.aload_n 0, 1) := by decide +kernel
theorem dX4_watch_79 : decode cX4_watch 79 = .ok (.getfield 33, 3) := by decide +kernel
theorem dX4_watch_82 : decode cX4_watch 82 = .ok (.getfield 121, 3) := by decide +kernel
theorem dX4_watch_85 : decode cX4_watch 85 = .ok (.iload_n 1, 1) := by decide +kernel
theorem dX4_watch_86 : decode cX4_watch 86 = .ok (.iaload, 1) := by decide +kernel
theorem dX4_watch_87 : decode cX4_watch 87 = .ok (.ifCond .ne 7, 3) := by decide +kernel
theorem dX4_watch_90 : decode cX4_watch 90 = .ok (.iconst 1, 1) := by decide +kernel
theorem dX4_watch_91 : decode cX4_watch 91 = .ok (.goto 4, 3) := by decide +kernel
theorem dX4_watch_94 : decode cX4_watch 94 = .ok (.iconst 0, 1) := by decide +kernel
theorem dX4_watch_95 : decode cX4_watch 95 = .ok (.invokestatic 108, 3) := by decide +kernel
theorem dX4_watch_98 : decode cX4_watch 98 = .ok (.aload_n 0, 1) := by decide +kernel
theorem dX4_watch_99 : decode cX4_watch 99 = .ok (.getfield 33, 3) := by decide +kernel
theorem dX4_watch_102 : decode cX4_watch 102 = .ok (.getfield 134, 3) := by decide +kernel
theorem dX4_watch_105 : decode cX4_watch 105 = .ok (.iload_n 1, 1) := by decide +kernel
theorem dX4_watch_106 : decode cX4_watch 106 = .ok (.iload_n 2, 1) := by decide +kernel
theorem dX4_watch_107 : decode cX4_watch 107 = .ok (.iastore, 1) := by decide +kernel
theorem dX4_watch_108 : decode cX4_watch 108 = .ok (.aload_n 0, 1) := by decide +kernel
theorem dX4_watch_109 : decode cX4_watch 109 = .ok (.getfield 33, 3) := by decide +kernel
theorem dX4_watch_112 : decode cX4_watch 112 = .ok (.getfield 137, 3) := by decide +kernel
theorem dX4_watch_115 : decode cX4_watch 115 = .ok (.iload_n 1, 1) := by decide +kernel
theorem dX4_watch_116 : decode cX4_watch 116 = .ok (.iload_n 3, 1) := by decide +kernel
theorem dX4_watch_117 : decode cX4_watch 117 = .ok (.iload 4, 2) := by decide +kernel
theorem dX4_watch_119 : decode cX4_watch 119 = .ok (.invokestatic 140, 3) := by decide +kernel
theorem dX4_watch_122 : decode cX4_watch 122 = .ok (.iastore, 1) := by decide +kernel
theorem dX4_watch_123 : decode cX4_watch 123 = .ok (.aload_n 0, 1) := by decide +kernel
theorem dX4_watch_124 : decode cX4_watch 124 = .ok (.getfield 33, 3) := by decide +kernel
theorem dX4_watch_127 : decode cX4_watch 127 = .ok (.getfield 145, 3) := by decide +kernel
end
section
theorem dX4_watch_130 : decode cX4_watch 130 = .ok (.iload_n 1, 1) := by decide +kernel
theorem dX4_watch_131 : decode cX4_watch 131 = .ok (.iload_n 3, 1) := by decide +kernel
theorem dX4_watch_132 : decode cX4_watch 132 = .ok (.iload 4, 2) := by decide +kernel
theorem dX4_watch_134 : decode cX4_watch 134 = .ok (.invokestatic 148, 3) := by decide +kernel
theorem dX4_watch_137 : decode cX4_watch 137 = .ok (.iastore, 1) := by decide +kernel
theorem dX4_watch_138 : decode cX4_watch 138 = .ok (.return_, 1) := by decide +kernel
theorem dX4_state_0 : decode cX4_state 0 = .ok (.iload_n 1, 1) := by decide +kernel
theorem dX4_state_1 : decode cX4_state 1 = .ok (.aload_n 0, 1) := by decide +kernel
theorem dX4_state_2 : decode cX4_state 2 = .ok (.getfield 33, 3) := by decide +kernel
theorem dX4_state_5 : decode cX4_state 5 = .ok (.getfield 94, 3) := by decide +kernel
theorem dX4_state_8 : decode cX4_state 8 = .ok (.invokestatic 37, 3) := by decide +kernel
theorem dX4_state_11 : decode cX4_state 11 = .ok (.invokestatic 41, 3) := by decide +kernel
theorem dX4_state_14 : decode cX4_state 14 = .ok (.iload_n 2, 1) := by decide +kernel
theorem dX4_state_15 : decode cX4_state 15 = .ok (.ifCond .lt 12, 3) := by decide +kernel
theorem dX4_state_18 : decode cX4_state 18 = .ok (.iload_n 2, 1) := by decide +kernel
theorem dX4_state_19 : decode cX4_state 19 = .ok (.iconst 2, 1) := by decide +kernel
theorem dX4_state_20 : decode cX4_state 20 = .ok (.if_icmp .gt 7, 3) := by decide +kernel
theorem dX4_state_23 : decode cX4_state 23 = .ok (.iconst 1, 1) := by decide +kernel
theorem dX4_state_24 : decode cX4_state 24 = .ok (.goto 4, 3) := by decide +kernel
theorem dX4_state_27 : decode cX4_state 27 = .ok (.iconst 0, 1) := by decide +kernel
theorem dX4_state_28 : decode cX4_state 28 = .ok (.invokestatic 45, 3) := by decide +kernel
theorem dX4_state_31 : decode cX4_state 31 = .ok (.aload_n 0, 1) := by decide +kernel
theorem dX4_state_32 : decode cX4_state 32 = .ok (.getfield 33, 3) := by decide +kernel
theorem dX4_state_35 : decode cX4_state 35 = .ok (.getfield 121, 3) := by decide +kernel
theorem dX4_state_38 : decode cX4_state 38 = .ok (.iload_n 1, 1) := by decide +kernel
theorem dX4_state_39 : decode cX4_state 39 = .ok (.iaload, 1) := by decide +kernel
theorem dX4_state_40 : decode cX4_state 40 = .ok (.iload_n 2, 1) := by decide +kernel
theorem dX4_state_41 : decode cX4_state 41 = .ok (.if_icmp .eq 20, 3) := by decide +kernel
theorem dX4_state_44 : decode cX4_state 44 = .ok (.aload_n 0, 1) := by decide +kernel
theorem dX4_state_45 : decode cX4_state 45 = .ok (.getfield 33, 3) := by decide +kernel
theorem dX4_state_48 : decode cX4_state 48 = .ok (.getfield 121, 3) := by decide +kernel
theorem dX4_state_51 : decode cX4_state 51 = .ok (.iload_n 1, 1) := by decide +kernel
theorem dX4_state_52 : decode cX4_state 52 = .ok (.iaload, 1) := by decide +kernel
theorem dX4_state_53 : decode cX4_state 53 = .ok (.iconst 3, 1) := by decide +kernel
theorem dX4_state_54 : decode cX4_state 54 = .ok (.if_icmp .eq 7, 3) := by decide +kernel
theorem dX4_state_57 : decode cX4_state 57 = .ok (.iconst 1, 1) := by decide +kernel
theorem dX4_state_58 : decode cX4_state 58 = .ok (.goto 4, 3) := by decide +kernel
theorem dX4_state_61 : decode cX4_state 61 = .ok (.iconst 0, 1) := by decide +kernel
theorem dX4_state_62 : decode cX4_state 62 = .ok (.invokestatic 108, 3) := by decide +kernel
theorem dX4_state_65 : decode cX4_state 65 = .ok (.aload_n 0, 1) := by decide +kernel
theorem dX4_state_66 : decode cX4_state 66 = .ok (.getfield 33, 3) := by decide +kernel
theorem dX4_state_69 : decode cX4_state 69 = .ok (.getfield 121, 3) := by decide +kernel
theorem dX4_state_72 : decode cX4_state 72 = .ok (.iload_n 1, 1) := by decide +kernel
theorem dX4_state_73 : decode cX4_state 73 = .ok (.iload_n 2, 1) := by decide +kernel
theorem dX4_state_74 : decode cX4_state 74 = .ok (.iastore, 1) := by decide +kernel
theorem dX4_state_75 : decode cX4_state 75 = .ok (.return_, 1) := by decide +kernel
theorem dX4_share_0 : decode cX4_share 0 = .ok (.aload_n 0, 1) := by decide +kernel
theorem dX4_share_1 : decode cX4_share 1 = .ok (.iload_n 1, 1) := by decide +kernel
theorem dX4_share_2 : decode cX4_share 2 = .ok (.iload_n 2, 1) := by decide +kernel
theorem dX4_share_3 : decode cX4_share 3 = .ok (.invokevirtual 151, 3) := by decide +kernel
theorem dX4_share_6 : decode cX4_share 6 = .ok (.aload_n 0, 1) := by decide +kernel
theorem dX4_share_7 : decode cX4_share 7 = .ok (.getfield 26, 3) := by decide +kernel
theorem dX4_share_10 : decode cX4_share 10 = .ok (.getfield 111, 3) := by decide +kernel
theorem dX4_share_13 : decode cX4_share 13 = .ok (.iload_n 1, 1) := by decide +kernel
theorem dX4_share_14 : decode cX4_share 14 = .ok (.iload_n 2, 1) := by decide +kernel
theorem dX4_share_15 : decode cX4_share 15 = .ok (.invokestatic 148, 3) := by decide +kernel
theorem dX4_share_18 : decode cX4_share 18 = .ok (.iaload, 1) := by decide +kernel
theorem dX4_share_19 : decode cX4_share 19 = .ok (.istore_n 3, 1) := by decide +kernel
theorem dX4_share_20 : decode cX4_share 20 = .ok (.aload_n 0, 1) := by decide +kernel
theorem dX4_share_21 : decode cX4_share 21 = .ok (.getfield 12, 3) := by decide +kernel
theorem dX4_share_24 : decode cX4_share 24 = .ok (.iload_n 3, 1) := by decide +kernel
theorem dX4_share_25 : decode cX4_share 25 = .ok (.aload_n 0, 1) := by decide +kernel
theorem dX4_share_26 : decode cX4_share 26 = .ok (.getfield 26, 3) := by decide +kernel
theorem dX4_share_29 : decode cX4_share 29 = .ok (.getfield 154, 3) := by decide +kernel
theorem dX4_share_32 : decode cX4_share 32 = .ok (.iload_n 1, 1) := by decide +kernel
theorem dX4_share_33 : decode cX4_share 33 = .ok (.iaload, 1) := by decide +kernel
theorem dX4_share_34 : decode cX4_share 34 = .ok (.aload_n 0, 1) := by decide +kernel
theorem dX4_share_35 : decode cX4_share 35 = .ok (.getfield 26, 3) := by decide +kernel
theorem dX4_share_38 : decode cX4_share 38 = .ok (.getfield 154, 3) := by decide +kernel
theorem dX4_share_41 : decode cX4_share 41 = .ok (.iload_n 2, 1) := by decide +kernel
theorem dX4_share_42 : decode cX4_share 42 = .ok (.iaload, 1) := by decide +kernel
theorem dX4_share_43 : decode cX4_share 43 = .ok (.ior, 1) := by decide +kernel
theorem dX4_share_44 : decode cX4_share 44 = .ok (.invokevirtual 157, 3) := by decide +kernel
theorem dX4_share_47 : decode cX4_share 47 = .ok (.istore 4, 2) := by decide +kernel
theorem dX4_share_49 : decode cX4_share 49 = .ok (.iload 4, 2) := by decide +kernel
theorem dX4_share_51 : decode cX4_share 51 = .ok (.ifCond .ne 13, 3) := by decide +kernel
theorem dX4_share_54 : decode cX4_share 54 = .ok (.new 160, 3) := by decide +kernel
theorem dX4_share_57 : decode cX4_share 57 = .ok (.dup, 1) := by decide +kernel
theorem dX4_share_58 : decode cX4_share 58 = .ok (.ldc 162, 2) := by decide +kernel
theorem dX4_share_60 : decode cX4_share 60 = .ok (.invokespecial 164, 3) := by decide +kernel
theorem dX4_share_63 : decode cX4_share 63 = .ok (.athrow, 1) := by decide +kernel
theorem dX4_share_64 : decode cX4_share 64 = .ok (.sipush 1000, 3) := by decide +kernel
theorem dX4_share_67 : decode cX4_share 67 = .ok (.aload_n 0, 1) := by decide +kernel
theorem dX4_share_68 : decode cX4_share 68 = .ok (.getfield 12, 3) := by decide +kernel
theorem dX4_share_71 : decode cX4_share 71 = .ok (.iload_n 3, 1) := by decide +kernel
theorem dX4_share_72 : decode cX4_share 72 = .ok (.aload_n 0, 1) := by decide +kernel
theorem dX4_share_73 : decode cX4_share 73 = .ok (.getfield 26, 3) := by decide +kernel
theorem dX4_share_76 : decode cX4_share 76 = .ok (.getfield 154, 3) := by decide +kernel
theorem dX4_share_79 : decode cX4_share 79 = .ok (.iload_n 1, 1) := by decide +kernel
theorem dX4_share_80 : decode cX4_share 80 = .ok (.iaload, 1) := by decide +kernel
theorem dX4_share_81 : decode cX4_share 81 = .ok (.aload_n 0, 1) := by decide +kernel
theorem dX4_share_82 : decode cX4_share 82 = .ok (.getfield 26, 3) := by decide +kernel
theorem dX4_share_85 : decode cX4_share 85 = .ok (.getfield 154, 3) := by decide +kernel
theorem dX4_share_88 : decode cX4_share 88 = .ok (.iload_n 2, 1) := by decide +kernel
theorem dX4_share_89 : decode cX4_share 89 = .ok (.iaload, 1) := by decide +kernel
theorem dX4_share_90 : decode cX4_share 90 = .ok (.iand, 1) := by decide +kernel
theorem dX4_share_91 : decode cX4_share 91 = .ok (.invokevirtual 157, 3) := by decide +kernel
theorem dX4_share_94 : decode cX4_share 94 = .ok (.imul, 1) := by decide +kernel
theorem dX4_share_95 : decode cX4_share 95 = .ok (.iload 4, 2) := by decide +kernel
theorem dX4_share_97 : decode cX4_share 97 = .ok (.idiv, 1) := by decide +kernel
theorem dX4_share_98 : decode cX4_share 98 = .ok (.ireturn, 1) := by decide +kernel
theorem dX4_agree_0 : decode cX4_agree 0 = .ok (.aload_n 0, 1) := by decide +kernel
theorem dX4_agree_1 : decode cX4_agree 1 = .ok (.iload_n 1, 1) := by decide +kernel
theorem dX4_agree_2 : decode cX4_agree 2 = .ok (.iload_n 2, 1) := by decide +kernel
theorem dX4_agree_3 : decode cX4_agree 3 = .ok (.invokevirtual 151, 3) := by decide +kernel
theorem dX4_agree_6 : decode cX4_agree 6 = .ok (.aload_n 0, 1) := by decide +kernel
theorem dX4_agree_7 : decode cX4_agree 7 = .ok (.iload_n 1, 1) := by decide +kernel
theorem dX4_agree_8 : decode cX4_agree 8 = .ok (.iload_n 2, 1) := by decide +kernel
theorem dX4_agree_9 : decode cX4_agree 9 = .ok (.invokestatic 140, 3) := by decide +kernel
theorem dX4_agree_12 : decode cX4_agree 12 = .ok (.iload_n 1, 1) := by decide +kernel
theorem dX4_agree_13 : decode cX4_agree 13 = .ok (.iload_n 2, 1) := by decide +kernel
theorem dX4_agree_14 : decode cX4_agree 14 = .ok (.invokestatic 148, 3) := by decide +kernel
theorem dX4_agree_17 : decode cX4_agree 17 = .ok (.invokevirtual 167, 3) := by decide +kernel
theorem dX4_agree_20 : decode cX4_agree 20 = .ok (.ireturn, 1) := by decide +kernel
theorem dX4_callAt_0 : decode cX4_callAt 0 = .ok (.iload_n 1, 1) := by decide +kernel
theorem dX4_callAt_1 : decode cX4_callAt 1 = .ok (.aload_n 0, 1) := by decide +kernel
theorem dX4_callAt_2 : decode cX4_callAt 2 = .ok (.getfield 26, 3) := by decide +kernel
theorem dX4_callAt_5 : decode cX4_callAt 5 = .ok (.getfield 80, 3) := by decide +kernel
theorem dX4_callAt_8 : decode cX4_callAt 8 = .ok (.invokestatic 37, 3) := by decide +kernel
theorem dX4_callAt_11 : decode cX4_callAt 11 = .ok (.ifCond .eq 15, 3) := by decide +kernel
theorem dX4_callAt_14 : decode cX4_callAt 14 = .ok (.iload_n 2, 1) := by decide +kernel
theorem dX4_callAt_15 : decode cX4_callAt 15 = .ok (.iconst 5, 1) := by decide +kernel
theorem dX4_callAt_16 : decode cX4_callAt 16 = .ok (.invokestatic 37, 3) := by decide +kernel
theorem dX4_callAt_19 : decode cX4_callAt 19 = .ok (.ifCond .eq 7, 3) := by decide +kernel
theorem dX4_callAt_22 : decode cX4_callAt 22 = .ok (.iconst 1, 1) := by decide +kernel
theorem dX4_callAt_23 : decode cX4_callAt 23 = .ok (.goto 4, 3) := by decide +kernel
theorem dX4_callAt_26 : decode cX4_callAt 26 = .ok (.iconst 0, 1) := by decide +kernel
theorem dX4_callAt_27 : decode cX4_callAt 27 = .ok (.invokestatic 41, 3) := by decide +kernel
theorem dX4_callAt_30 : decode cX4_callAt 30 = .ok (.iload_n 2, 1) := by decide +kernel
theorem dX4_callAt_31 : decode cX4_callAt 31 = .ok (.tableswitch 69 0 3 #[29, 39, 49, 59], 29) := by decide +kernel
theorem dX4_callAt_60 : decode cX4_callAt 60 = .ok (.aload_n 0, 1) := by decide +kernel
theorem dX4_callAt_61 : decode cX4_callAt 61 = .ok (.getfield 26, 3) := by decide +kernel
theorem dX4_callAt_64 : decode cX4_callAt 64 = .ok (.getfield 95, 3) := by decide +kernel
theorem dX4_callAt_67 : decode cX4_callAt 67 = .ok (.iload_n 1, 1) := by decide +kernel
theorem dX4_callAt_68 : decode cX4_callAt 68 = .ok (.iaload, 1) := by decide +kernel
theorem dX4_callAt_69 : decode cX4_callAt 69 = .ok (.ireturn, 1) := by decide +kernel
theorem dX4_callAt_70 : decode cX4_callAt 70 = .ok (.aload_n 0, 1) := by decide +kernel
theorem dX4_callAt_71 : decode cX4_callAt 71 = .ok (.getfield 26, 3) := by decide +kernel
theorem dX4_callAt_74 : decode cX4_callAt 74 = .ok (.getfield 91, 3) := by decide +kernel
theorem dX4_callAt_77 : decode cX4_callAt 77 = .ok (.iload_n 1, 1) := by decide +kernel
theorem dX4_callAt_78 : decode cX4_callAt 78 = .ok (.iaload, 1) := by decide +kernel
theorem dX4_callAt_79 : decode cX4_callAt 79 = .ok (.ireturn, 1) := by decide +kernel
theorem dX4_callAt_80 : decode cX4_callAt 80 = .ok (.aload_n 0, 1) := by decide +kernel
theorem dX4_callAt_81 : decode cX4_callAt 81 = .ok (.getfield 26, 3) := by decide +kernel
theorem dX4_callAt_84 : decode cX4_callAt 84 = .ok (.getfield 101, 3) := by decide +kernel
theorem dX4_callAt_87 : decode cX4_callAt 87 = .ok (.iload_n 1, 1) := by decide +kernel
theorem dX4_callAt_88 : decode cX4_callAt 88 = .ok (.iaload, 1) := by decide +kernel
theorem dX4_callAt_89 : decode cX4_callAt 89 = .ok (.ireturn, 1) := by decide +kernel
theorem dX4_callAt_90 : decode cX4_callAt 90 = .ok (.aload_n 0, 1) := by decide +kernel
theorem dX4_callAt_91 : decode cX4_callAt 91 = .ok (.getfield 26, 3) := by decide +kernel
theorem dX4_callAt_94 : decode cX4_callAt 94 = .ok (.getfield 111, 3) := by decide +kernel
theorem dX4_callAt_97 : decode cX4_callAt 97 = .ok (.iload_n 1, 1) := by decide +kernel
theorem dX4_callAt_98 : decode cX4_callAt 98 = .ok (.iaload, 1) := by decide +kernel
theorem dX4_callAt_99 : decode cX4_callAt 99 = .ok (.ireturn, 1) := by decide +kernel
theorem dX4_callAt_100 : decode cX4_callAt 100 = .ok (.aload_n 0, 1) := by decide +kernel
theorem dX4_callAt_101 : decode cX4_callAt 101 = .ok (.getfield 26, 3) := by decide +kernel
theorem dX4_callAt_104 : decode cX4_callAt 104 = .ok (.getfield 118, 3) := by decide +kernel
theorem dX4_callAt_107 : decode cX4_callAt 107 = .ok (.iload_n 1, 1) := by decide +kernel
theorem dX4_callAt_108 : decode cX4_callAt 108 = .ok (.iaload, 1) := by decide +kernel
theorem dX4_callAt_109 : decode cX4_callAt 109 = .ok (.ireturn, 1) := by decide +kernel
theorem dX4_eventAt_0 : decode cX4_eventAt 0 = .ok (.iload_n 1, 1) := by decide +kernel
theorem dX4_eventAt_1 : decode cX4_eventAt 1 = .ok (.aload_n 0, 1) := by decide +kernel
theorem dX4_eventAt_2 : decode cX4_eventAt 2 = .ok (.getfield 33, 3) := by decide +kernel
theorem dX4_eventAt_5 : decode cX4_eventAt 5 = .ok (.getfield 94, 3) := by decide +kernel
theorem dX4_eventAt_8 : decode cX4_eventAt 8 = .ok (.invokestatic 37, 3) := by decide +kernel
theorem dX4_eventAt_11 : decode cX4_eventAt 11 = .ok (.ifCond .eq 16, 3) := by decide +kernel
theorem dX4_eventAt_14 : decode cX4_eventAt 14 = .ok (.iload_n 2, 1) := by decide +kernel
theorem dX4_eventAt_15 : decode cX4_eventAt 15 = .ok (.bipush 7, 2) := by decide +kernel
theorem dX4_eventAt_17 : decode cX4_eventAt 17 = .ok (.invokestatic 37, 3) := by decide +kernel
theorem dX4_eventAt_20 : decode cX4_eventAt 20 = .ok (.ifCond .eq 7, 3) := by decide +kernel
theorem dX4_eventAt_23 : decode cX4_eventAt 23 = .ok (.iconst 1, 1) := by decide +kernel
theorem dX4_eventAt_24 : decode cX4_eventAt 24 = .ok (.goto 4, 3) := by decide +kernel
theorem dX4_eventAt_27 : decode cX4_eventAt 27 = .ok (.iconst 0, 1) := by decide +kernel
theorem dX4_eventAt_28 : decode cX4_eventAt 28 = .ok (.invokestatic 41, 3) := by decide +kernel
theorem dX4_eventAt_31 : decode cX4_eventAt 31 = .ok (.iload_n 2, 1) := by decide +kernel
theorem dX4_eventAt_32 : decode cX4_eventAt 32 = .ok (.tableswitch 97 0 5 #[40, 50, 59, 69, 78, 87], 40) := by decide +kernel
theorem dX4_eventAt_72 : decode cX4_eventAt 72 = .ok (.aload_n 0, 1) := by decide +kernel
theorem dX4_eventAt_73 : decode cX4_eventAt 73 = .ok (.getfield 33, 3) := by decide +kernel
theorem dX4_eventAt_76 : decode cX4_eventAt 76 = .ok (.getfield 121, 3) := by decide +kernel
theorem dX4_eventAt_79 : decode cX4_eventAt 79 = .ok (.iload_n 1, 1) := by decide +kernel
theorem dX4_eventAt_80 : decode cX4_eventAt 80 = .ok (.iaload, 1) := by decide +kernel
theorem dX4_eventAt_81 : decode cX4_eventAt 81 = .ok (.ireturn, 1) := by decide +kernel
theorem dX4_eventAt_82 : decode cX4_eventAt 82 = .ok (.aload_n 0, 1) := by decide +kernel
theorem dX4_eventAt_83 : decode cX4_eventAt 83 = .ok (.getfield 26, 3) := by decide +kernel
theorem dX4_eventAt_86 : decode cX4_eventAt 86 = .ok (.iload_n 1, 1) := by decide +kernel
theorem dX4_eventAt_87 : decode cX4_eventAt 87 = .ok (.invokevirtual 130, 3) := by decide +kernel
theorem dX4_eventAt_90 : decode cX4_eventAt 90 = .ok (.ireturn, 1) := by decide +kernel
theorem dX4_eventAt_91 : decode cX4_eventAt 91 = .ok (.aload_n 0, 1) := by decide +kernel
theorem dX4_eventAt_92 : decode cX4_eventAt 92 = .ok (.getfield 33, 3) := by decide +kernel
theorem dX4_eventAt_95 : decode cX4_eventAt 95 = .ok (.getfield 170, 3) := by decide +kernel
theorem dX4_eventAt_98 : decode cX4_eventAt 98 = .ok (.iload_n 1, 1) := by decide +kernel
theorem dX4_eventAt_99 : decode cX4_eventAt 99 = .ok (.iaload, 1) := by decide +kernel
theorem dX4_eventAt_100 : decode cX4_eventAt 100 = .ok (.ireturn, 1) := by decide +kernel
theorem dX4_eventAt_101 : decode cX4_eventAt 101 = .ok (.aload_n 0, 1) := by decide +kernel
theorem dX4_eventAt_102 : decode cX4_eventAt 102 = .ok (.getfield 26, 3) := by decide +kernel
theorem dX4_eventAt_105 : decode cX4_eventAt 105 = .ok (.iload_n 1, 1) := by decide +kernel
theorem dX4_eventAt_106 : decode cX4_eventAt 106 = .ok (.invokevirtual 171, 3) := by decide +kernel
theorem dX4_eventAt_109 : decode cX4_eventAt 109 = .ok (.ireturn, 1) := by decide +kernel
theorem dX4_eventAt_110 : decode cX4_eventAt 110 = .ok (.aload_n 0, 1) := by decide +kernel
theorem dX4_eventAt_111 : decode cX4_eventAt 111 = .ok (.getfield 26, 3) := by decide +kernel
theorem dX4_eventAt_114 : decode cX4_eventAt 114 = .ok (.iload_n 1, 1) := by decide +kernel
theorem dX4_eventAt_115 : decode cX4_eventAt 115 = .ok (.invokevirtual 174, 3) := by decide +kernel
theorem dX4_eventAt_118 : decode cX4_eventAt 118 = .ok (.ireturn, 1) := by decide +kernel
theorem dX4_eventAt_119 : decode cX4_eventAt 119 = .ok (.aload_n 0, 1) := by decide +kernel
theorem dX4_eventAt_120 : decode cX4_eventAt 120 = .ok (.getfield 33, 3) := by decide +kernel
theorem dX4_eventAt_123 : decode cX4_eventAt 123 = .ok (.getfield 124, 3) := by decide +kernel
theorem dX4_eventAt_126 : decode cX4_eventAt 126 = .ok (.iload_n 1, 1) := by decide +kernel
theorem dX4_eventAt_127 : decode cX4_eventAt 127 = .ok (.iaload, 1) := by decide +kernel
theorem dX4_eventAt_128 : decode cX4_eventAt 128 = .ok (.ireturn, 1) := by decide +kernel
theorem dX4_eventAt_129 : decode cX4_eventAt 129 = .ok (.aload_n 0, 1) := by decide +kernel
theorem dX4_eventAt_130 : decode cX4_eventAt 130 = .ok (.getfield 26, 3) := by decide +kernel
theorem dX4_eventAt_133 : decode cX4_eventAt 133 = .ok (.iload_n 1, 1) := by decide +kernel
theorem dX4_eventAt_134 : decode cX4_eventAt 134 = .ok (.invokevirtual 177, 3) := by decide +kernel
theorem dX4_eventAt_137 : decode cX4_eventAt 137 = .ok (.ireturn, 1) := by decide +kernel
theorem dX4_member_0 : decode cX4_member 0 = .ok (.iload_n 1, 1) := by decide +kernel
theorem dX4_member_1 : decode cX4_member 1 = .ok (.aload_n 0, 1) := by decide +kernel
theorem dX4_member_2 : decode cX4_member 2 = .ok (.getfield 33, 3) := by decide +kernel
theorem dX4_member_5 : decode cX4_member 5 = .ok (.getfield 94, 3) := by decide +kernel
theorem dX4_member_8 : decode cX4_member 8 = .ok (.invokestatic 37, 3) := by decide +kernel
theorem dX4_member_11 : decode cX4_member 11 = .ok (.invokestatic 41, 3) := by decide +kernel
theorem dX4_member_14 : decode cX4_member 14 = .ok (.aload_n 0, 1) := by decide +kernel
theorem dX4_member_15 : decode cX4_member 15 = .ok (.getfield 26, 3) := by decide +kernel
theorem dX4_member_18 : decode cX4_member 18 = .ok (.iload_n 1, 1) := by decide +kernel
theorem dX4_member_19 : decode cX4_member 19 = .ok (.iload_n 2, 1) := by decide +kernel
theorem dX4_member_20 : decode cX4_member 20 = .ok (.invokevirtual 180, 3) := by decide +kernel
theorem dX4_member_23 : decode cX4_member 23 = .ok (.istore_n 3, 1) := by decide +kernel
theorem dX4_member_24 : decode cX4_member 24 = .ok (.iload_n 3, 1) := by decide +kernel
theorem dX4_member_25 : decode cX4_member 25 = .ok (.iconst (-1), 1) := by decide +kernel
theorem dX4_member_26 : decode cX4_member 26 = .ok (.if_icmp .eq 7, 3) := by decide +kernel
theorem dX4_member_29 : decode cX4_member 29 = .ok (.iconst 1, 1) := by decide +kernel
theorem dX4_member_30 : decode cX4_member 30 = .ok (.goto 4, 3) := by decide +kernel
theorem dX4_member_33 : decode cX4_member 33 = .ok (.iconst 0, 1) := by decide +kernel
theorem dX4_member_34 : decode cX4_member 34 = .ok (.invokestatic 45, 3) := by decide +kernel
theorem dX4_member_37 : decode cX4_member 37 = .ok (.iload_n 3, 1) := by decide +kernel
theorem dX4_member_38 : decode cX4_member 38 = .ok (.ireturn, 1) := by decide +kernel
theorem dX4_count_0 : decode cX4_count 0 = .ok (.iload_n 1, 1) := by decide +kernel
theorem dX4_count_1 : decode cX4_count 1 = .ok (.iconst 4, 1) := by decide +kernel
theorem dX4_count_2 : decode cX4_count 2 = .ok (.invokestatic 37, 3) := by decide +kernel
theorem dX4_count_5 : decode cX4_count 5 = .ok (.invokestatic 41, 3) := by decide +kernel
theorem dX4_count_8 : decode cX4_count 8 = .ok (.iload_n 1, 1) := by decide +kernel
theorem dX4_count_9 : decode cX4_count 9 = .ok (.tableswitch 51 0 2 #[27, 35, 43], 27) := by decide +kernel
theorem dX4_count_36 : decode cX4_count 36 = .ok (.aload_n 0, 1) := by decide +kernel
theorem dX4_count_37 : decode cX4_count 37 = .ok (.getfield 26, 3) := by decide +kernel
theorem dX4_count_40 : decode cX4_count 40 = .ok (.getfield 80, 3) := by decide +kernel
theorem dX4_count_43 : decode cX4_count 43 = .ok (.ireturn, 1) := by decide +kernel
theorem dX4_count_44 : decode cX4_count 44 = .ok (.aload_n 0, 1) := by decide +kernel
theorem dX4_count_45 : decode cX4_count 45 = .ok (.getfield 33, 3) := by decide +kernel
theorem dX4_count_48 : decode cX4_count 48 = .ok (.getfield 94, 3) := by decide +kernel
theorem dX4_count_51 : decode cX4_count 51 = .ok (.ireturn, 1) := by decide +kernel
theorem dX4_count_52 : decode cX4_count 52 = .ok (.aload_n 0, 1) := by decide +kernel
theorem dX4_count_53 : decode cX4_count 53 = .ok (.getfield 33, 3) := by decide +kernel
theorem dX4_count_56 : decode cX4_count 56 = .ok (.invokevirtual 183, 3) := by decide +kernel
theorem dX4_count_59 : decode cX4_count 59 = .ok (.ireturn, 1) := by decide +kernel
theorem dX4_count_60 : decode cX4_count 60 = .ok (.aload_n 0, 1) := by decide +kernel
theorem dX4_count_61 : decode cX4_count 61 = .ok (.getfield 26, 3) := by decide +kernel
theorem dX4_count_64 : decode cX4_count 64 = .ok (.invokevirtual 187, 3) := by decide +kernel
theorem dX4_count_67 : decode cX4_count 67 = .ok (.ireturn, 1) := by decide +kernel
theorem dX4_isBelow_0 : decode cX4_isBelow 0 = .ok (.iload_n 0, 1) := by decide +kernel
theorem dX4_isBelow_1 : decode cX4_isBelow 1 = .ok (.ifCond .lt 12, 3) := by decide +kernel
theorem dX4_isBelow_4 : decode cX4_isBelow 4 = .ok (.iload_n 0, 1) := by decide +kernel
theorem dX4_isBelow_5 : decode cX4_isBelow 5 = .ok (.iload_n 1, 1) := by decide +kernel
theorem dX4_isBelow_6 : decode cX4_isBelow 6 = .ok (.if_icmp .ge 7, 3) := by decide +kernel
theorem dX4_isBelow_9 : decode cX4_isBelow 9 = .ok (.iconst 1, 1) := by decide +kernel
theorem dX4_isBelow_10 : decode cX4_isBelow 10 = .ok (.goto 4, 3) := by decide +kernel
theorem dX4_isBelow_13 : decode cX4_isBelow 13 = .ok (.iconst 0, 1) := by decide +kernel
theorem dX4_isBelow_14 : decode cX4_isBelow 14 = .ok (.ireturn, 1) := by decide +kernel
theorem dX4_needKnown_0 : decode cX4_needKnown 0 = .ok (.iload_n 0, 1) := by decide +kernel
theorem dX4_needKnown_1 : decode cX4_needKnown 1 = .ok (.ifCond .ne 13, 3) := by decide +kernel
theorem dX4_needKnown_4 : decode cX4_needKnown 4 = .ok (.new 190, 3) := by decide +kernel
theorem dX4_needKnown_7 : decode cX4_needKnown 7 = .ok (.dup, 1) := by decide +kernel
theorem dX4_needKnown_8 : decode cX4_needKnown 8 = .ok (.ldc 192, 2) := by decide +kernel
theorem dX4_needKnown_10 : decode cX4_needKnown 10 = .ok (.invokespecial 194, 3) := by decide +kernel
theorem dX4_needKnown_13 : decode cX4_needKnown 13 = .ok (.athrow, 1) := by decide +kernel
theorem dX4_needKnown_14 : decode cX4_needKnown 14 = .ok (.return_, 1) := by decide +kernel
theorem dX4_needRange_0 : decode cX4_needRange 0 = .ok (.iload_n 0, 1) := by decide +kernel
theorem dX4_needRange_1 : decode cX4_needRange 1 = .ok (.ifCond .ne 13, 3) := by decide +kernel
theorem dX4_needRange_4 : decode cX4_needRange 4 = .ok (.new 195, 3) := by decide +kernel
theorem dX4_needRange_7 : decode cX4_needRange 7 = .ok (.dup, 1) := by decide +kernel
theorem dX4_needRange_8 : decode cX4_needRange 8 = .ok (.ldc 197, 2) := by decide +kernel
theorem dX4_needRange_10 : decode cX4_needRange 10 = .ok (.invokespecial 199, 3) := by decide +kernel
theorem dX4_needRange_13 : decode cX4_needRange 13 = .ok (.athrow, 1) := by decide +kernel
theorem dX4_needRange_14 : decode cX4_needRange 14 = .ok (.return_, 1) := by decide +kernel
theorem dX4_needState_0 : decode cX4_needState 0 = .ok (.iload_n 0, 1) := by decide +kernel
theorem dX4_needState_1 : decode cX4_needState 1 = .ok (.ifCond .ne 13, 3) := by decide +kernel
theorem dX4_needState_4 : decode cX4_needState 4 = .ok (.new 200, 3) := by decide +kernel
theorem dX4_needState_7 : decode cX4_needState 7 = .ok (.dup, 1) := by decide +kernel
theorem dX4_needState_8 : decode cX4_needState 8 = .ok (.ldc 202, 2) := by decide +kernel
theorem dX4_needState_10 : decode cX4_needState 10 = .ok (.invokespecial 204, 3) := by decide +kernel
theorem dX4_needState_13 : decode cX4_needState 13 = .ok (.athrow, 1) := by decide +kernel
theorem dX4_needState_14 : decode cX4_needState 14 = .ok (.return_, 1) := by decide +kernel
theorem dX4_needRoom_0 : decode cX4_needRoom 0 = .ok (.iload_n 0, 1) := by decide +kernel
theorem dX4_needRoom_1 : decode cX4_needRoom 1 = .ok (.ifCond .ne 13, 3) := by decide +kernel
theorem dX4_needRoom_4 : decode cX4_needRoom 4 = .ok (.new 205, 3) := by decide +kernel
theorem dX4_needRoom_7 : decode cX4_needRoom 7 = .ok (.dup, 1) := by decide +kernel
theorem dX4_needRoom_8 : decode cX4_needRoom 8 = .ok (.ldc 207, 2) := by decide +kernel
theorem dX4_needRoom_10 : decode cX4_needRoom 10 = .ok (.invokespecial 209, 3) := by decide +kernel
theorem dX4_needRoom_13 : decode cX4_needRoom 13 = .ok (.athrow, 1) := by decide +kernel
theorem dX4_needRoom_14 : decode cX4_needRoom 14 = .ok (.return_, 1) := by decide +kernel
theorem dX4_needCallData_0 : decode cX4_needCallData 0 = .ok (.iload_n 2, 1) := by decide +kernel
theorem dX4_needCallData_1 : decode cX4_needCallData 1 = .ok (.bipush 8, 2) := by decide +kernel
theorem dX4_needCallData_3 : decode cX4_needCallData 3 = .ok (.invokestatic 37, 3) := by decide +kernel
theorem dX4_needCallData_6 : decode cX4_needCallData 6 = .ok (.invokestatic 41, 3) := by decide +kernel
theorem dX4_needCallData_9 : decode cX4_needCallData 9 = .ok (.iload 4, 2) := by decide +kernel
theorem dX4_needCallData_11 : decode cX4_needCallData 11 = .ok (.iconst (-1), 1) := by decide +kernel
theorem dX4_needCallData_12 : decode cX4_needCallData 12 = .ok (.if_icmp .eq 13, 3) := by decide +kernel
theorem dX4_needCallData_15 : decode cX4_needCallData 15 = .ok (.iload 4, 2) := by decide +kernel
theorem dX4_needCallData_17 : decode cX4_needCallData 17 = .ok (.bipush 8, 2) := by decide +kernel
theorem dX4_needCallData_19 : decode cX4_needCallData 19 = .ok (.invokestatic 37, 3) := by decide +kernel
theorem dX4_needCallData_22 : decode cX4_needCallData 22 = .ok (.ifCond .eq 7, 3) := by decide +kernel
theorem dX4_needCallData_25 : decode cX4_needCallData 25 = .ok (.iconst 1, 1) := by decide +kernel
theorem dX4_needCallData_26 : decode cX4_needCallData 26 = .ok (.goto 4, 3) := by decide +kernel
theorem dX4_needCallData_29 : decode cX4_needCallData 29 = .ok (.iconst 0, 1) := by decide +kernel
theorem dX4_needCallData_30 : decode cX4_needCallData 30 = .ok (.invokestatic 41, 3) := by decide +kernel
theorem dX4_needCallData_33 : decode cX4_needCallData 33 = .ok (.iload_n 1, 1) := by decide +kernel
theorem dX4_needCallData_34 : decode cX4_needCallData 34 = .ok (.sipush 1000, 3) := by decide +kernel
theorem dX4_needCallData_37 : decode cX4_needCallData 37 = .ok (.invokestatic 37, 3) := by decide +kernel
theorem dX4_needCallData_40 : decode cX4_needCallData 40 = .ok (.invokestatic 45, 3) := by decide +kernel
theorem dX4_needCallData_43 : decode cX4_needCallData 43 = .ok (.iload_n 3, 1) := by decide +kernel
theorem dX4_needCallData_44 : decode cX4_needCallData 44 = .ok (.iconst (-1), 1) := by decide +kernel
theorem dX4_needCallData_45 : decode cX4_needCallData 45 = .ok (.if_icmp .eq 12, 3) := by decide +kernel
theorem dX4_needCallData_48 : decode cX4_needCallData 48 = .ok (.iload_n 3, 1) := by decide +kernel
theorem dX4_needCallData_49 : decode cX4_needCallData 49 = .ok (.ldc 65, 2) := by decide +kernel
theorem dX4_needCallData_51 : decode cX4_needCallData 51 = .ok (.invokestatic 37, 3) := by decide +kernel
theorem dX4_needCallData_54 : decode cX4_needCallData 54 = .ok (.ifCond .eq 7, 3) := by decide +kernel
theorem dX4_needCallData_57 : decode cX4_needCallData 57 = .ok (.iconst 1, 1) := by decide +kernel
theorem dX4_needCallData_58 : decode cX4_needCallData 58 = .ok (.goto 4, 3) := by decide +kernel
theorem dX4_needCallData_61 : decode cX4_needCallData 61 = .ok (.iconst 0, 1) := by decide +kernel
theorem dX4_needCallData_62 : decode cX4_needCallData 62 = .ok (.invokestatic 45, 3) := by decide +kernel
theorem dX4_needCallData_65 : decode cX4_needCallData 65 = .ok (.iload 5, 2) := by decide +kernel
theorem dX4_needCallData_67 : decode cX4_needCallData 67 = .ok (.aload_n 0, 1) := by decide +kernel
theorem dX4_needCallData_68 : decode cX4_needCallData 68 = .ok (.getfield 26, 3) := by decide +kernel
theorem dX4_needCallData_71 : decode cX4_needCallData 71 = .ok (.invokevirtual 210, 3) := by decide +kernel
theorem dX4_needCallData_74 : decode cX4_needCallData 74 = .ok (.if_icmp .lt 7, 3) := by decide +kernel
theorem dX4_needCallData_77 : decode cX4_needCallData 77 = .ok (.iconst 1, 1) := by decide +kernel
theorem dX4_needCallData_78 : decode cX4_needCallData 78 = .ok (.goto 4, 3) := by decide +kernel
theorem dX4_needCallData_81 : decode cX4_needCallData 81 = .ok (.iconst 0, 1) := by decide +kernel
theorem dX4_needCallData_82 : decode cX4_needCallData 82 = .ok (.invokestatic 45, 3) := by decide +kernel
theorem dX4_needCallData_85 : decode cX4_needCallData 85 = .ok (.return_, 1) := by decide +kernel
theorem dX4_needTwoCalls_0 : decode cX4_needTwoCalls 0 = .ok (.iload_n 1, 1) := by decide +kernel
theorem dX4_needTwoCalls_1 : decode cX4_needTwoCalls 1 = .ok (.aload_n 0, 1) := by decide +kernel
theorem dX4_needTwoCalls_2 : decode cX4_needTwoCalls 2 = .ok (.getfield 26, 3) := by decide +kernel
theorem dX4_needTwoCalls_5 : decode cX4_needTwoCalls 5 = .ok (.getfield 80, 3) := by decide +kernel
theorem dX4_needTwoCalls_8 : decode cX4_needTwoCalls 8 = .ok (.invokestatic 37, 3) := by decide +kernel
theorem dX4_needTwoCalls_11 : decode cX4_needTwoCalls 11 = .ok (.ifCond .eq 26, 3) := by decide +kernel
theorem dX4_needTwoCalls_14 : decode cX4_needTwoCalls 14 = .ok (.iload_n 2, 1) := by decide +kernel
theorem dX4_needTwoCalls_15 : decode cX4_needTwoCalls 15 = .ok (.aload_n 0, 1) := by decide +kernel
theorem dX4_needTwoCalls_16 : decode cX4_needTwoCalls 16 = .ok (.getfield 26, 3) := by decide +kernel
theorem dX4_needTwoCalls_19 : decode cX4_needTwoCalls 19 = .ok (.getfield 80, 3) := by decide +kernel
theorem dX4_needTwoCalls_22 : decode cX4_needTwoCalls 22 = .ok (.invokestatic 37, 3) := by decide +kernel
theorem dX4_needTwoCalls_25 : decode cX4_needTwoCalls 25 = .ok (.ifCond .eq 12, 3) := by decide +kernel
theorem dX4_needTwoCalls_28 : decode cX4_needTwoCalls 28 = .ok (.iload_n 1, 1) := by decide +kernel
theorem dX4_needTwoCalls_29 : decode cX4_needTwoCalls 29 = .ok (.iload_n 2, 1) := by decide +kernel
theorem dX4_needTwoCalls_30 : decode cX4_needTwoCalls 30 = .ok (.if_icmp .eq 7, 3) := by decide +kernel
theorem dX4_needTwoCalls_33 : decode cX4_needTwoCalls 33 = .ok (.iconst 1, 1) := by decide +kernel
theorem dX4_needTwoCalls_34 : decode cX4_needTwoCalls 34 = .ok (.goto 4, 3) := by decide +kernel
theorem dX4_needTwoCalls_37 : decode cX4_needTwoCalls 37 = .ok (.iconst 0, 1) := by decide +kernel
theorem dX4_needTwoCalls_38 : decode cX4_needTwoCalls 38 = .ok (.invokestatic 41, 3) := by decide +kernel
theorem dX4_needTwoCalls_41 : decode cX4_needTwoCalls 41 = .ok (.return_, 1) := by decide +kernel
theorem dX4_isInOpenEvent_0 : decode cX4_isInOpenEvent 0 = .ok (.aload_n 0, 1) := by decide +kernel
theorem dX4_isInOpenEvent_1 : decode cX4_isInOpenEvent 1 = .ok (.getfield 33, 3) := by decide +kernel
theorem dX4_isInOpenEvent_4 : decode cX4_isInOpenEvent 4 = .ok (.getfield 121, 3) := by decide +kernel
theorem dX4_isInOpenEvent_7 : decode cX4_isInOpenEvent 7 = .ok (.aload_n 0, 1) := by decide +kernel
theorem dX4_isInOpenEvent_8 : decode cX4_isInOpenEvent 8 = .ok (.getfield 26, 3) := by decide +kernel
theorem dX4_isInOpenEvent_11 : decode cX4_isInOpenEvent 11 = .ok (.getfield 95, 3) := by decide +kernel
theorem dX4_isInOpenEvent_14 : decode cX4_isInOpenEvent 14 = .ok (.iload_n 1, 1) := by decide +kernel
theorem dX4_isInOpenEvent_15 : decode cX4_isInOpenEvent 15 = .ok (.iaload, 1) := by decide +kernel
theorem dX4_isInOpenEvent_16 : decode cX4_isInOpenEvent 16 = .ok (.iaload, 1) := by decide +kernel
theorem dX4_isInOpenEvent_17 : decode cX4_isInOpenEvent 17 = .ok (.ifCond .ne 7, 3) := by decide +kernel
theorem dX4_isInOpenEvent_20 : decode cX4_isInOpenEvent 20 = .ok (.iconst 1, 1) := by decide +kernel
theorem dX4_isInOpenEvent_21 : decode cX4_isInOpenEvent 21 = .ok (.goto 4, 3) := by decide +kernel
theorem dX4_isInOpenEvent_24 : decode cX4_isInOpenEvent 24 = .ok (.iconst 0, 1) := by decide +kernel
theorem dX4_isInOpenEvent_25 : decode cX4_isInOpenEvent 25 = .ok (.ireturn, 1) := by decide +kernel
theorem dX4_canBeReason_0 : decode cX4_canBeReason 0 = .ok (.aload_n 0, 1) := by decide +kernel
theorem dX4_canBeReason_1 : decode cX4_canBeReason 1 = .ok (.getfield 26, 3) := by decide +kernel
theorem dX4_canBeReason_4 : decode cX4_canBeReason 4 = .ok (.iload_n 1, 1) := by decide +kernel
theorem dX4_canBeReason_5 : decode cX4_canBeReason 5 = .ok (.invokevirtual 213, 3) := by decide +kernel
theorem dX4_canBeReason_8 : decode cX4_canBeReason 8 = .ok (.ifCond .ne 15, 3) := by decide +kernel
theorem dX4_canBeReason_11 : decode cX4_canBeReason 11 = .ok (.aload_n 0, 1) := by decide +kernel
theorem dX4_canBeReason_12 : decode cX4_canBeReason 12 = .ok (.iload_n 1, 1) := by decide +kernel
theorem dX4_canBeReason_13 : decode cX4_canBeReason 13 = .ok (.invokevirtual 104, 3) := by decide +kernel
theorem dX4_canBeReason_16 : decode cX4_canBeReason 16 = .ok (.ifCond .eq 7, 3) := by decide +kernel
theorem dX4_canBeReason_19 : decode cX4_canBeReason 19 = .ok (.iconst 1, 1) := by decide +kernel
theorem dX4_canBeReason_20 : decode cX4_canBeReason 20 = .ok (.goto 4, 3) := by decide +kernel
theorem dX4_canBeReason_23 : decode cX4_canBeReason 23 = .ok (.iconst 0, 1) := by decide +kernel
theorem dX4_canBeReason_24 : decode cX4_canBeReason 24 = .ok (.ireturn, 1) := by decide +kernel
theorem dX4_seekReason_0 : decode cX4_seekReason 0 = .ok (.aload_n 0, 1) := by decide +kernel
theorem dX4_seekReason_1 : decode cX4_seekReason 1 = .ok (.iload_n 1, 1) := by decide +kernel
theorem dX4_seekReason_2 : decode cX4_seekReason 2 = .ok (.aload_n 0, 1) := by decide +kernel
theorem dX4_seekReason_3 : decode cX4_seekReason 3 = .ok (.iload_n 1, 1) := by decide +kernel
theorem dX4_seekReason_4 : decode cX4_seekReason 4 = .ok (.invokevirtual 216, 3) := by decide +kernel
theorem dX4_seekReason_7 : decode cX4_seekReason 7 = .ok (.iconst 1, 1) := by decide +kernel
theorem dX4_seekReason_8 : decode cX4_seekReason 8 = .ok (.invokevirtual 219, 3) := by decide +kernel
theorem dX4_seekReason_11 : decode cX4_seekReason 11 = .ok (.ifCond .eq 4, 3) := by decide +kernel
theorem dX4_seekReason_14 : decode cX4_seekReason 14 = .ok (.return_, 1) := by decide +kernel
theorem dX4_seekReason_15 : decode cX4_seekReason 15 = .ok (.aload_n 0, 1) := by decide +kernel
theorem dX4_seekReason_16 : decode cX4_seekReason 16 = .ok (.iload_n 1, 1) := by decide +kernel
theorem dX4_seekReason_17 : decode cX4_seekReason 17 = .ok (.aload_n 0, 1) := by decide +kernel
theorem dX4_seekReason_18 : decode cX4_seekReason 18 = .ok (.iload_n 1, 1) := by decide +kernel
theorem dX4_seekReason_19 : decode cX4_seekReason 19 = .ok (.invokevirtual 223, 3) := by decide +kernel
theorem dX4_seekReason_22 : decode cX4_seekReason 22 = .ok (.iconst 2, 1) := by decide +kernel
theorem dX4_seekReason_23 : decode cX4_seekReason 23 = .ok (.invokevirtual 219, 3) := by decide +kernel
theorem dX4_seekReason_26 : decode cX4_seekReason 26 = .ok (.ifCond .eq 4, 3) := by decide +kernel
theorem dX4_seekReason_29 : decode cX4_seekReason 29 = .ok (.return_, 1) := by decide +kernel
theorem dX4_seekReason_30 : decode cX4_seekReason 30 = .ok (.aload_n 0, 1) := by decide +kernel
theorem dX4_seekReason_31 : decode cX4_seekReason 31 = .ok (.iload_n 1, 1) := by decide +kernel
theorem dX4_seekReason_32 : decode cX4_seekReason 32 = .ok (.aload_n 0, 1) := by decide +kernel
theorem dX4_seekReason_33 : decode cX4_seekReason 33 = .ok (.iload_n 1, 1) := by decide +kernel
theorem dX4_seekReason_34 : decode cX4_seekReason 34 = .ok (.invokevirtual 226, 3) := by decide +kernel
theorem dX4_seekReason_37 : decode cX4_seekReason 37 = .ok (.iconst 3, 1) := by decide +kernel
theorem dX4_seekReason_38 : decode cX4_seekReason 38 = .ok (.invokevirtual 219, 3) := by decide +kernel
theorem dX4_seekReason_41 : decode cX4_seekReason 41 = .ok (.ifCond .eq 4, 3) := by decide +kernel
theorem dX4_seekReason_44 : decode cX4_seekReason 44 = .ok (.return_, 1) := by decide +kernel
theorem dX4_seekReason_45 : decode cX4_seekReason 45 = .ok (.aload_n 0, 1) := by decide +kernel
theorem dX4_seekReason_46 : decode cX4_seekReason 46 = .ok (.iload_n 1, 1) := by decide +kernel
theorem dX4_seekReason_47 : decode cX4_seekReason 47 = .ok (.aload_n 0, 1) := by decide +kernel
theorem dX4_seekReason_48 : decode cX4_seekReason 48 = .ok (.iload_n 1, 1) := by decide +kernel
theorem dX4_seekReason_49 : decode cX4_seekReason 49 = .ok (.invokevirtual 229, 3) := by decide +kernel
theorem dX4_seekReason_52 : decode cX4_seekReason 52 = .ok (.iconst 4, 1) := by decide +kernel
theorem dX4_seekReason_53 : decode cX4_seekReason 53 = .ok (.invokevirtual 219, 3) := by decide +kernel
theorem dX4_seekReason_56 : decode cX4_seekReason 56 = .ok (.pop, 1) := by decide +kernel
theorem dX4_seekReason_57 : decode cX4_seekReason 57 = .ok (.return_, 1) := by decide +kernel
theorem dX4_takeReason_0 : decode cX4_takeReason 0 = .ok (.iload_n 2, 1) := by decide +kernel
theorem dX4_takeReason_1 : decode cX4_takeReason 1 = .ok (.iconst (-1), 1) := by decide +kernel
theorem dX4_takeReason_2 : decode cX4_takeReason 2 = .ok (.if_icmp .ne 5, 3) := by decide +kernel
theorem dX4_takeReason_5 : decode cX4_takeReason 5 = .ok (.iconst 0, 1) := by decide +kernel
theorem dX4_takeReason_6 : decode cX4_takeReason 6 = .ok (.ireturn, 1) := by decide +kernel
theorem dX4_takeReason_7 : decode cX4_takeReason 7 = .ok (.aload_n 0, 1) := by decide +kernel
theorem dX4_takeReason_8 : decode cX4_takeReason 8 = .ok (.getfield 26, 3) := by decide +kernel
theorem dX4_takeReason_11 : decode cX4_takeReason 11 = .ok (.getfield 91, 3) := by decide +kernel
theorem dX4_takeReason_14 : decode cX4_takeReason 14 = .ok (.iload_n 1, 1) := by decide +kernel
theorem dX4_takeReason_15 : decode cX4_takeReason 15 = .ok (.iload_n 2, 1) := by decide +kernel
theorem dX4_takeReason_16 : decode cX4_takeReason 16 = .ok (.iastore, 1) := by decide +kernel
theorem dX4_takeReason_17 : decode cX4_takeReason 17 = .ok (.aload_n 0, 1) := by decide +kernel
theorem dX4_takeReason_18 : decode cX4_takeReason 18 = .ok (.getfield 26, 3) := by decide +kernel
theorem dX4_takeReason_21 : decode cX4_takeReason 21 = .ok (.getfield 118, 3) := by decide +kernel
theorem dX4_takeReason_24 : decode cX4_takeReason 24 = .ok (.iload_n 1, 1) := by decide +kernel
theorem dX4_takeReason_25 : decode cX4_takeReason 25 = .ok (.iload_n 3, 1) := by decide +kernel
theorem dX4_takeReason_26 : decode cX4_takeReason 26 = .ok (.iastore, 1) := by decide +kernel
theorem dX4_takeReason_27 : decode cX4_takeReason 27 = .ok (.iconst 1, 1) := by decide +kernel
theorem dX4_takeReason_28 : decode cX4_takeReason 28 = .ok (.ireturn, 1) := by decide +kernel
theorem dX4_latestOfLine_0 : decode cX4_latestOfLine 0 = .ok (.aload_n 0, 1) := by decide +kernel
theorem dX4_latestOfLine_1 : decode cX4_latestOfLine 1 = .ok (.getfield 26, 3) := by decide +kernel
theorem dX4_latestOfLine_4 : decode cX4_latestOfLine 4 = .ok (.getfield 80, 3) := by decide +kernel
theorem dX4_latestOfLine_7 : decode cX4_latestOfLine 7 = .ok (.iconst 1, 1) := by decide +kernel
theorem dX4_latestOfLine_8 : decode cX4_latestOfLine 8 = .ok (.isub, 1) := by decide +kernel
theorem dX4_latestOfLine_9 : decode cX4_latestOfLine 9 = .ok (.istore_n 2, 1) := by decide +kernel
theorem dX4_latestOfLine_10 : decode cX4_latestOfLine 10 = .ok (.iload_n 2, 1) := by decide +kernel
theorem dX4_latestOfLine_11 : decode cX4_latestOfLine 11 = .ok (.ifCond .lt 53, 3) := by decide +kernel
theorem dX4_latestOfLine_14 : decode cX4_latestOfLine 14 = .ok (.aload_n 0, 1) := by decide +kernel
theorem dX4_latestOfLine_15 : decode cX4_latestOfLine 15 = .ok (.getfield 26, 3) := by decide +kernel
end
section
theorem dX4_latestOfLine_18 : decode cX4_latestOfLine 18 = .ok (.getfield 232, 3) := by decide +kernel
theorem dX4_latestOfLine_21 : decode cX4_latestOfLine 21 = .ok (.iload_n 2, 1) := by decide +kernel
theorem dX4_latestOfLine_22 : decode cX4_latestOfLine 22 = .ok (.iaload, 1) := by decide +kernel
theorem dX4_latestOfLine_23 : decode cX4_latestOfLine 23 = .ok (.aload_n 0, 1) := by decide +kernel
theorem dX4_latestOfLine_24 : decode cX4_latestOfLine 24 = .ok (.getfield 26, 3) := by decide +kernel
theorem dX4_latestOfLine_27 : decode cX4_latestOfLine 27 = .ok (.getfield 232, 3) := by decide +kernel
theorem dX4_latestOfLine_30 : decode cX4_latestOfLine 30 = .ok (.iload_n 1, 1) := by decide +kernel
theorem dX4_latestOfLine_31 : decode cX4_latestOfLine 31 = .ok (.iaload, 1) := by decide +kernel
theorem dX4_latestOfLine_32 : decode cX4_latestOfLine 32 = .ok (.if_icmp .ne 26, 3) := by decide +kernel
theorem dX4_latestOfLine_35 : decode cX4_latestOfLine 35 = .ok (.aload_n 0, 1) := by decide +kernel
theorem dX4_latestOfLine_36 : decode cX4_latestOfLine 36 = .ok (.iload_n 2, 1) := by decide +kernel
theorem dX4_latestOfLine_37 : decode cX4_latestOfLine 37 = .ok (.invokevirtual 235, 3) := by decide +kernel
theorem dX4_latestOfLine_40 : decode cX4_latestOfLine 40 = .ok (.ifCond .eq 18, 3) := by decide +kernel
theorem dX4_latestOfLine_43 : decode cX4_latestOfLine 43 = .ok (.aload_n 0, 1) := by decide +kernel
theorem dX4_latestOfLine_44 : decode cX4_latestOfLine 44 = .ok (.iload_n 2, 1) := by decide +kernel
theorem dX4_latestOfLine_45 : decode cX4_latestOfLine 45 = .ok (.iload_n 1, 1) := by decide +kernel
theorem dX4_latestOfLine_46 : decode cX4_latestOfLine 46 = .ok (.invokevirtual 238, 3) := by decide +kernel
theorem dX4_latestOfLine_49 : decode cX4_latestOfLine 49 = .ok (.ifCond .eq 7, 3) := by decide +kernel
theorem dX4_latestOfLine_52 : decode cX4_latestOfLine 52 = .ok (.iload_n 2, 1) := by decide +kernel
theorem dX4_latestOfLine_53 : decode cX4_latestOfLine 53 = .ok (.goto 4, 3) := by decide +kernel
theorem dX4_latestOfLine_56 : decode cX4_latestOfLine 56 = .ok (.iconst (-1), 1) := by decide +kernel
theorem dX4_latestOfLine_57 : decode cX4_latestOfLine 57 = .ok (.ireturn, 1) := by decide +kernel
theorem dX4_latestOfLine_58 : decode cX4_latestOfLine 58 = .ok (.iinc 2 (-1), 3) := by decide +kernel
theorem dX4_latestOfLine_61 : decode cX4_latestOfLine 61 = .ok (.goto (-51), 3) := by decide +kernel
theorem dX4_latestOfLine_64 : decode cX4_latestOfLine 64 = .ok (.iconst (-1), 1) := by decide +kernel
theorem dX4_latestOfLine_65 : decode cX4_latestOfLine 65 = .ok (.ireturn, 1) := by decide +kernel
theorem dX4_firstOnStretch_0 : decode cX4_firstOnStretch 0 = .ok (.iconst 0, 1) := by decide +kernel
theorem dX4_firstOnStretch_1 : decode cX4_firstOnStretch 1 = .ok (.istore_n 2, 1) := by decide +kernel
theorem dX4_firstOnStretch_2 : decode cX4_firstOnStretch 2 = .ok (.iload_n 2, 1) := by decide +kernel
theorem dX4_firstOnStretch_3 : decode cX4_firstOnStretch 3 = .ok (.aload_n 0, 1) := by decide +kernel
theorem dX4_firstOnStretch_4 : decode cX4_firstOnStretch 4 = .ok (.getfield 33, 3) := by decide +kernel
theorem dX4_firstOnStretch_7 : decode cX4_firstOnStretch 7 = .ok (.getfield 94, 3) := by decide +kernel
theorem dX4_firstOnStretch_10 : decode cX4_firstOnStretch 10 = .ok (.if_icmp .ge 48, 3) := by decide +kernel
theorem dX4_firstOnStretch_13 : decode cX4_firstOnStretch 13 = .ok (.aload_n 0, 1) := by decide +kernel
theorem dX4_firstOnStretch_14 : decode cX4_firstOnStretch 14 = .ok (.getfield 33, 3) := by decide +kernel
theorem dX4_firstOnStretch_17 : decode cX4_firstOnStretch 17 = .ok (.iload_n 2, 1) := by decide +kernel
theorem dX4_firstOnStretch_18 : decode cX4_firstOnStretch 18 = .ok (.aload_n 0, 1) := by decide +kernel
theorem dX4_firstOnStretch_19 : decode cX4_firstOnStretch 19 = .ok (.getfield 26, 3) := by decide +kernel
theorem dX4_firstOnStretch_22 : decode cX4_firstOnStretch 22 = .ok (.getfield 111, 3) := by decide +kernel
theorem dX4_firstOnStretch_25 : decode cX4_firstOnStretch 25 = .ok (.iload_n 1, 1) := by decide +kernel
theorem dX4_firstOnStretch_26 : decode cX4_firstOnStretch 26 = .ok (.iaload, 1) := by decide +kernel
theorem dX4_firstOnStretch_27 : decode cX4_firstOnStretch 27 = .ok (.invokevirtual 241, 3) := by decide +kernel
theorem dX4_firstOnStretch_30 : decode cX4_firstOnStretch 30 = .ok (.ifCond .eq 22, 3) := by decide +kernel
theorem dX4_firstOnStretch_33 : decode cX4_firstOnStretch 33 = .ok (.aload_n 0, 1) := by decide +kernel
theorem dX4_firstOnStretch_34 : decode cX4_firstOnStretch 34 = .ok (.iload_n 1, 1) := by decide +kernel
theorem dX4_firstOnStretch_35 : decode cX4_firstOnStretch 35 = .ok (.iload_n 2, 1) := by decide +kernel
theorem dX4_firstOnStretch_36 : decode cX4_firstOnStretch 36 = .ok (.invokevirtual 244, 3) := by decide +kernel
theorem dX4_firstOnStretch_39 : decode cX4_firstOnStretch 39 = .ok (.ifCond .eq 13, 3) := by decide +kernel
theorem dX4_firstOnStretch_42 : decode cX4_firstOnStretch 42 = .ok (.aload_n 0, 1) := by decide +kernel
theorem dX4_firstOnStretch_43 : decode cX4_firstOnStretch 43 = .ok (.getfield 33, 3) := by decide +kernel
theorem dX4_firstOnStretch_46 : decode cX4_firstOnStretch 46 = .ok (.getfield 124, 3) := by decide +kernel
theorem dX4_firstOnStretch_49 : decode cX4_firstOnStretch 49 = .ok (.iload_n 2, 1) := by decide +kernel
theorem dX4_firstOnStretch_50 : decode cX4_firstOnStretch 50 = .ok (.iaload, 1) := by decide +kernel
theorem dX4_firstOnStretch_51 : decode cX4_firstOnStretch 51 = .ok (.ireturn, 1) := by decide +kernel
theorem dX4_firstOnStretch_52 : decode cX4_firstOnStretch 52 = .ok (.iinc 2 1, 3) := by decide +kernel
theorem dX4_firstOnStretch_55 : decode cX4_firstOnStretch 55 = .ok (.goto (-53), 3) := by decide +kernel
theorem dX4_firstOnStretch_58 : decode cX4_firstOnStretch 58 = .ok (.iconst (-1), 1) := by decide +kernel
theorem dX4_firstOnStretch_59 : decode cX4_firstOnStretch 59 = .ok (.ireturn, 1) := by decide +kernel
theorem dX4_isOnStretch_0 : decode cX4_isOnStretch 0 = .ok (.aload_n 0, 1) := by decide +kernel
theorem dX4_isOnStretch_1 : decode cX4_isOnStretch 1 = .ok (.getfield 33, 3) := by decide +kernel
theorem dX4_isOnStretch_4 : decode cX4_isOnStretch 4 = .ok (.getfield 134, 3) := by decide +kernel
theorem dX4_isOnStretch_7 : decode cX4_isOnStretch 7 = .ok (.iload_n 2, 1) := by decide +kernel
theorem dX4_isOnStretch_8 : decode cX4_isOnStretch 8 = .ok (.iaload, 1) := by decide +kernel
theorem dX4_isOnStretch_9 : decode cX4_isOnStretch 9 = .ok (.istore_n 3, 1) := by decide +kernel
theorem dX4_isOnStretch_10 : decode cX4_isOnStretch 10 = .ok (.aload_n 0, 1) := by decide +kernel
theorem dX4_isOnStretch_11 : decode cX4_isOnStretch 11 = .ok (.getfield 26, 3) := by decide +kernel
theorem dX4_isOnStretch_14 : decode cX4_isOnStretch 14 = .ok (.getfield 247, 3) := by decide +kernel
theorem dX4_isOnStretch_17 : decode cX4_isOnStretch 17 = .ok (.iload_n 1, 1) := by decide +kernel
theorem dX4_isOnStretch_18 : decode cX4_isOnStretch 18 = .ok (.iaload, 1) := by decide +kernel
theorem dX4_isOnStretch_19 : decode cX4_isOnStretch 19 = .ok (.istore 4, 2) := by decide +kernel
theorem dX4_isOnStretch_21 : decode cX4_isOnStretch 21 = .ok (.iload 4, 2) := by decide +kernel
theorem dX4_isOnStretch_23 : decode cX4_isOnStretch 23 = .ok (.iconst (-1), 1) := by decide +kernel
theorem dX4_isOnStretch_24 : decode cX4_isOnStretch 24 = .ok (.if_icmp .ne 22, 3) := by decide +kernel
theorem dX4_isOnStretch_27 : decode cX4_isOnStretch 27 = .ok (.aload_n 0, 1) := by decide +kernel
theorem dX4_isOnStretch_28 : decode cX4_isOnStretch 28 = .ok (.getfield 26, 3) := by decide +kernel
theorem dX4_isOnStretch_31 : decode cX4_isOnStretch 31 = .ok (.getfield 250, 3) := by decide +kernel
theorem dX4_isOnStretch_34 : decode cX4_isOnStretch 34 = .ok (.iload_n 1, 1) := by decide +kernel
theorem dX4_isOnStretch_35 : decode cX4_isOnStretch 35 = .ok (.iaload, 1) := by decide +kernel
theorem dX4_isOnStretch_36 : decode cX4_isOnStretch 36 = .ok (.iload_n 3, 1) := by decide +kernel
theorem dX4_isOnStretch_37 : decode cX4_isOnStretch 37 = .ok (.if_icmp .ne 7, 3) := by decide +kernel
theorem dX4_isOnStretch_40 : decode cX4_isOnStretch 40 = .ok (.iconst 1, 1) := by decide +kernel
theorem dX4_isOnStretch_41 : decode cX4_isOnStretch 41 = .ok (.goto 4, 3) := by decide +kernel
theorem dX4_isOnStretch_44 : decode cX4_isOnStretch 44 = .ok (.iconst 0, 1) := by decide +kernel
theorem dX4_isOnStretch_45 : decode cX4_isOnStretch 45 = .ok (.ireturn, 1) := by decide +kernel
theorem dX4_isOnStretch_46 : decode cX4_isOnStretch 46 = .ok (.aload_n 0, 1) := by decide +kernel
theorem dX4_isOnStretch_47 : decode cX4_isOnStretch 47 = .ok (.getfield 19, 3) := by decide +kernel
theorem dX4_isOnStretch_50 : decode cX4_isOnStretch 50 = .ok (.iload_n 3, 1) := by decide +kernel
theorem dX4_isOnStretch_51 : decode cX4_isOnStretch 51 = .ok (.aload_n 0, 1) := by decide +kernel
theorem dX4_isOnStretch_52 : decode cX4_isOnStretch 52 = .ok (.getfield 33, 3) := by decide +kernel
theorem dX4_isOnStretch_55 : decode cX4_isOnStretch 55 = .ok (.getfield 137, 3) := by decide +kernel
theorem dX4_isOnStretch_58 : decode cX4_isOnStretch 58 = .ok (.iload_n 2, 1) := by decide +kernel
theorem dX4_isOnStretch_59 : decode cX4_isOnStretch 59 = .ok (.iaload, 1) := by decide +kernel
theorem dX4_isOnStretch_60 : decode cX4_isOnStretch 60 = .ok (.aload_n 0, 1) := by decide +kernel
theorem dX4_isOnStretch_61 : decode cX4_isOnStretch 61 = .ok (.getfield 33, 3) := by decide +kernel
theorem dX4_isOnStretch_64 : decode cX4_isOnStretch 64 = .ok (.getfield 145, 3) := by decide +kernel
theorem dX4_isOnStretch_67 : decode cX4_isOnStretch 67 = .ok (.iload_n 2, 1) := by decide +kernel
theorem dX4_isOnStretch_68 : decode cX4_isOnStretch 68 = .ok (.iaload, 1) := by decide +kernel
theorem dX4_isOnStretch_69 : decode cX4_isOnStretch 69 = .ok (.iload 4, 2) := by decide +kernel
theorem dX4_isOnStretch_71 : decode cX4_isOnStretch 71 = .ok (.invokevirtual 251, 3) := by decide +kernel
theorem dX4_isOnStretch_74 : decode cX4_isOnStretch 74 = .ok (.ireturn, 1) := by decide +kernel
theorem dX4_nearestByPlace_0 : decode cX4_nearestByPlace 0 = .ok (.iconst (-1), 1) := by decide +kernel
theorem dX4_nearestByPlace_1 : decode cX4_nearestByPlace 1 = .ok (.istore_n 2, 1) := by decide +kernel
theorem dX4_nearestByPlace_2 : decode cX4_nearestByPlace 2 = .ok (.lconst 0, 1) := by decide +kernel
theorem dX4_nearestByPlace_3 : decode cX4_nearestByPlace 3 = .ok (.lstore_n 3, 1) := by decide +kernel
theorem dX4_nearestByPlace_4 : decode cX4_nearestByPlace 4 = .ok (.iconst 0, 1) := by decide +kernel
theorem dX4_nearestByPlace_5 : decode cX4_nearestByPlace 5 = .ok (.istore 5, 2) := by decide +kernel
theorem dX4_nearestByPlace_7 : decode cX4_nearestByPlace 7 = .ok (.iload 5, 2) := by decide +kernel
theorem dX4_nearestByPlace_9 : decode cX4_nearestByPlace 9 = .ok (.aload_n 0, 1) := by decide +kernel
theorem dX4_nearestByPlace_10 : decode cX4_nearestByPlace 10 = .ok (.getfield 26, 3) := by decide +kernel
theorem dX4_nearestByPlace_13 : decode cX4_nearestByPlace 13 = .ok (.getfield 80, 3) := by decide +kernel
theorem dX4_nearestByPlace_16 : decode cX4_nearestByPlace 16 = .ok (.if_icmp .ge 72, 3) := by decide +kernel
theorem dX4_nearestByPlace_19 : decode cX4_nearestByPlace 19 = .ok (.aload_n 0, 1) := by decide +kernel
theorem dX4_nearestByPlace_20 : decode cX4_nearestByPlace 20 = .ok (.iload 5, 2) := by decide +kernel
theorem dX4_nearestByPlace_22 : decode cX4_nearestByPlace 22 = .ok (.iload_n 1, 1) := by decide +kernel
theorem dX4_nearestByPlace_23 : decode cX4_nearestByPlace 23 = .ok (.invokevirtual 255, 3) := by decide +kernel
theorem dX4_nearestByPlace_26 : decode cX4_nearestByPlace 26 = .ok (.ifCond .eq 56, 3) := by decide +kernel
theorem dX4_nearestByPlace_29 : decode cX4_nearestByPlace 29 = .ok (.aload_n 0, 1) := by decide +kernel
theorem dX4_nearestByPlace_30 : decode cX4_nearestByPlace 30 = .ok (.iload 5, 2) := by decide +kernel
theorem dX4_nearestByPlace_32 : decode cX4_nearestByPlace 32 = .ok (.iload_n 1, 1) := by decide +kernel
theorem dX4_nearestByPlace_33 : decode cX4_nearestByPlace 33 = .ok (.invokevirtual 167, 3) := by decide +kernel
theorem dX4_nearestByPlace_36 : decode cX4_nearestByPlace 36 = .ok (.iconst 1, 1) := by decide +kernel
theorem dX4_nearestByPlace_37 : decode cX4_nearestByPlace 37 = .ok (.if_icmp .ne 45, 3) := by decide +kernel
theorem dX4_nearestByPlace_40 : decode cX4_nearestByPlace 40 = .ok (.aload_n 0, 1) := by decide +kernel
theorem dX4_nearestByPlace_41 : decode cX4_nearestByPlace 41 = .ok (.getfield 26, 3) := by decide +kernel
theorem dX4_nearestByPlace_44 : decode cX4_nearestByPlace 44 = .ok (.getfield 247, 3) := by decide +kernel
theorem dX4_nearestByPlace_47 : decode cX4_nearestByPlace 47 = .ok (.iload 5, 2) := by decide +kernel
theorem dX4_nearestByPlace_49 : decode cX4_nearestByPlace 49 = .ok (.iaload, 1) := by decide +kernel
theorem dX4_nearestByPlace_50 : decode cX4_nearestByPlace 50 = .ok (.aload_n 0, 1) := by decide +kernel
theorem dX4_nearestByPlace_51 : decode cX4_nearestByPlace 51 = .ok (.getfield 26, 3) := by decide +kernel
theorem dX4_nearestByPlace_54 : decode cX4_nearestByPlace 54 = .ok (.getfield 247, 3) := by decide +kernel
theorem dX4_nearestByPlace_57 : decode cX4_nearestByPlace 57 = .ok (.iload_n 1, 1) := by decide +kernel
theorem dX4_nearestByPlace_58 : decode cX4_nearestByPlace 58 = .ok (.iaload, 1) := by decide +kernel
theorem dX4_nearestByPlace_59 : decode cX4_nearestByPlace 59 = .ok (.invokestatic 258, 3) := by decide +kernel
theorem dX4_nearestByPlace_62 : decode cX4_nearestByPlace 62 = .ok (.lstore 6, 2) := by decide +kernel
theorem dX4_nearestByPlace_64 : decode cX4_nearestByPlace 64 = .ok (.iload_n 2, 1) := by decide +kernel
theorem dX4_nearestByPlace_65 : decode cX4_nearestByPlace 65 = .ok (.iconst (-1), 1) := by decide +kernel
theorem dX4_nearestByPlace_66 : decode cX4_nearestByPlace 66 = .ok (.if_icmp .eq 10, 3) := by decide +kernel
theorem dX4_nearestByPlace_69 : decode cX4_nearestByPlace 69 = .ok (.lload 6, 2) := by decide +kernel
theorem dX4_nearestByPlace_71 : decode cX4_nearestByPlace 71 = .ok (.lload_n 3, 1) := by decide +kernel
theorem dX4_nearestByPlace_72 : decode cX4_nearestByPlace 72 = .ok (.lcmp, 1) := by decide +kernel
theorem dX4_nearestByPlace_73 : decode cX4_nearestByPlace 73 = .ok (.ifCond .ge 9, 3) := by decide +kernel
theorem dX4_nearestByPlace_76 : decode cX4_nearestByPlace 76 = .ok (.iload 5, 2) := by decide +kernel
theorem dX4_nearestByPlace_78 : decode cX4_nearestByPlace 78 = .ok (.istore_n 2, 1) := by decide +kernel
theorem dX4_nearestByPlace_79 : decode cX4_nearestByPlace 79 = .ok (.lload 6, 2) := by decide +kernel
theorem dX4_nearestByPlace_81 : decode cX4_nearestByPlace 81 = .ok (.lstore_n 3, 1) := by decide +kernel
theorem dX4_nearestByPlace_82 : decode cX4_nearestByPlace 82 = .ok (.iinc 5 1, 3) := by decide +kernel
theorem dX4_nearestByPlace_85 : decode cX4_nearestByPlace 85 = .ok (.goto (-78), 3) := by decide +kernel
theorem dX4_nearestByPlace_88 : decode cX4_nearestByPlace 88 = .ok (.iload_n 2, 1) := by decide +kernel
theorem dX4_nearestByPlace_89 : decode cX4_nearestByPlace 89 = .ok (.ireturn, 1) := by decide +kernel
theorem dX4_greatestShare_0 : decode cX4_greatestShare 0 = .ok (.aload_n 0, 1) := by decide +kernel
theorem dX4_greatestShare_1 : decode cX4_greatestShare 1 = .ok (.getfield 26, 3) := by decide +kernel
theorem dX4_greatestShare_4 : decode cX4_greatestShare 4 = .ok (.getfield 111, 3) := by decide +kernel
theorem dX4_greatestShare_7 : decode cX4_greatestShare 7 = .ok (.iload_n 1, 1) := by decide +kernel
theorem dX4_greatestShare_8 : decode cX4_greatestShare 8 = .ok (.iaload, 1) := by decide +kernel
theorem dX4_greatestShare_9 : decode cX4_greatestShare 9 = .ok (.istore_n 2, 1) := by decide +kernel
theorem dX4_greatestShare_10 : decode cX4_greatestShare 10 = .ok (.iconst (-1), 1) := by decide +kernel
theorem dX4_greatestShare_11 : decode cX4_greatestShare 11 = .ok (.istore_n 3, 1) := by decide +kernel
theorem dX4_greatestShare_12 : decode cX4_greatestShare 12 = .ok (.iconst 0, 1) := by decide +kernel
theorem dX4_greatestShare_13 : decode cX4_greatestShare 13 = .ok (.istore 4, 2) := by decide +kernel
theorem dX4_greatestShare_15 : decode cX4_greatestShare 15 = .ok (.iconst 1, 1) := by decide +kernel
theorem dX4_greatestShare_16 : decode cX4_greatestShare 16 = .ok (.istore 5, 2) := by decide +kernel
theorem dX4_greatestShare_18 : decode cX4_greatestShare 18 = .ok (.iconst 0, 1) := by decide +kernel
theorem dX4_greatestShare_19 : decode cX4_greatestShare 19 = .ok (.istore 6, 2) := by decide +kernel
theorem dX4_greatestShare_21 : decode cX4_greatestShare 21 = .ok (.iload 6, 2) := by decide +kernel
theorem dX4_greatestShare_23 : decode cX4_greatestShare 23 = .ok (.aload_n 0, 1) := by decide +kernel
theorem dX4_greatestShare_24 : decode cX4_greatestShare 24 = .ok (.getfield 26, 3) := by decide +kernel
theorem dX4_greatestShare_27 : decode cX4_greatestShare 27 = .ok (.getfield 80, 3) := by decide +kernel
theorem dX4_greatestShare_30 : decode cX4_greatestShare 30 = .ok (.if_icmp .ge 119, 3) := by decide +kernel
theorem dX4_greatestShare_33 : decode cX4_greatestShare 33 = .ok (.aload_n 0, 1) := by decide +kernel
theorem dX4_greatestShare_34 : decode cX4_greatestShare 34 = .ok (.iload 6, 2) := by decide +kernel
theorem dX4_greatestShare_36 : decode cX4_greatestShare 36 = .ok (.iload_n 1, 1) := by decide +kernel
theorem dX4_greatestShare_37 : decode cX4_greatestShare 37 = .ok (.invokevirtual 255, 3) := by decide +kernel
theorem dX4_greatestShare_40 : decode cX4_greatestShare 40 = .ok (.ifCond .eq 103, 3) := by decide +kernel
theorem dX4_greatestShare_43 : decode cX4_greatestShare 43 = .ok (.aload_n 0, 1) := by decide +kernel
theorem dX4_greatestShare_44 : decode cX4_greatestShare 44 = .ok (.iload 6, 2) := by decide +kernel
theorem dX4_greatestShare_46 : decode cX4_greatestShare 46 = .ok (.iload_n 1, 1) := by decide +kernel
theorem dX4_greatestShare_47 : decode cX4_greatestShare 47 = .ok (.invokevirtual 167, 3) := by decide +kernel
theorem dX4_greatestShare_50 : decode cX4_greatestShare 50 = .ok (.iconst 2, 1) := by decide +kernel
theorem dX4_greatestShare_51 : decode cX4_greatestShare 51 = .ok (.if_icmp .ne 92, 3) := by decide +kernel
theorem dX4_greatestShare_54 : decode cX4_greatestShare 54 = .ok (.aload_n 0, 1) := by decide +kernel
theorem dX4_greatestShare_55 : decode cX4_greatestShare 55 = .ok (.getfield 12, 3) := by decide +kernel
theorem dX4_greatestShare_58 : decode cX4_greatestShare 58 = .ok (.iload_n 2, 1) := by decide +kernel
theorem dX4_greatestShare_59 : decode cX4_greatestShare 59 = .ok (.aload_n 0, 1) := by decide +kernel
theorem dX4_greatestShare_60 : decode cX4_greatestShare 60 = .ok (.getfield 26, 3) := by decide +kernel
theorem dX4_greatestShare_63 : decode cX4_greatestShare 63 = .ok (.getfield 154, 3) := by decide +kernel
theorem dX4_greatestShare_66 : decode cX4_greatestShare 66 = .ok (.iload 6, 2) := by decide +kernel
theorem dX4_greatestShare_68 : decode cX4_greatestShare 68 = .ok (.iaload, 1) := by decide +kernel
theorem dX4_greatestShare_69 : decode cX4_greatestShare 69 = .ok (.aload_n 0, 1) := by decide +kernel
theorem dX4_greatestShare_70 : decode cX4_greatestShare 70 = .ok (.getfield 26, 3) := by decide +kernel
theorem dX4_greatestShare_73 : decode cX4_greatestShare 73 = .ok (.getfield 154, 3) := by decide +kernel
theorem dX4_greatestShare_76 : decode cX4_greatestShare 76 = .ok (.iload_n 1, 1) := by decide +kernel
theorem dX4_greatestShare_77 : decode cX4_greatestShare 77 = .ok (.iaload, 1) := by decide +kernel
theorem dX4_greatestShare_78 : decode cX4_greatestShare 78 = .ok (.iand, 1) := by decide +kernel
theorem dX4_greatestShare_79 : decode cX4_greatestShare 79 = .ok (.invokevirtual 157, 3) := by decide +kernel
theorem dX4_greatestShare_82 : decode cX4_greatestShare 82 = .ok (.istore 7, 2) := by decide +kernel
theorem dX4_greatestShare_84 : decode cX4_greatestShare 84 = .ok (.aload_n 0, 1) := by decide +kernel
theorem dX4_greatestShare_85 : decode cX4_greatestShare 85 = .ok (.getfield 12, 3) := by decide +kernel
theorem dX4_greatestShare_88 : decode cX4_greatestShare 88 = .ok (.iload_n 2, 1) := by decide +kernel
theorem dX4_greatestShare_89 : decode cX4_greatestShare 89 = .ok (.aload_n 0, 1) := by decide +kernel
theorem dX4_greatestShare_90 : decode cX4_greatestShare 90 = .ok (.getfield 26, 3) := by decide +kernel
theorem dX4_greatestShare_93 : decode cX4_greatestShare 93 = .ok (.getfield 154, 3) := by decide +kernel
theorem dX4_greatestShare_96 : decode cX4_greatestShare 96 = .ok (.iload 6, 2) := by decide +kernel
theorem dX4_greatestShare_98 : decode cX4_greatestShare 98 = .ok (.iaload, 1) := by decide +kernel
theorem dX4_greatestShare_99 : decode cX4_greatestShare 99 = .ok (.aload_n 0, 1) := by decide +kernel
theorem dX4_greatestShare_100 : decode cX4_greatestShare 100 = .ok (.getfield 26, 3) := by decide +kernel
theorem dX4_greatestShare_103 : decode cX4_greatestShare 103 = .ok (.getfield 154, 3) := by decide +kernel
theorem dX4_greatestShare_106 : decode cX4_greatestShare 106 = .ok (.iload_n 1, 1) := by decide +kernel
theorem dX4_greatestShare_107 : decode cX4_greatestShare 107 = .ok (.iaload, 1) := by decide +kernel
theorem dX4_greatestShare_108 : decode cX4_greatestShare 108 = .ok (.ior, 1) := by decide +kernel
theorem dX4_greatestShare_109 : decode cX4_greatestShare 109 = .ok (.invokevirtual 157, 3) := by decide +kernel
theorem dX4_greatestShare_112 : decode cX4_greatestShare 112 = .ok (.istore 8, 2) := by decide +kernel
theorem dX4_greatestShare_114 : decode cX4_greatestShare 114 = .ok (.iload_n 3, 1) := by decide +kernel
theorem dX4_greatestShare_115 : decode cX4_greatestShare 115 = .ok (.iconst (-1), 1) := by decide +kernel
theorem dX4_greatestShare_116 : decode cX4_greatestShare 116 = .ok (.if_icmp .eq 16, 3) := by decide +kernel
theorem dX4_greatestShare_119 : decode cX4_greatestShare 119 = .ok (.iload 7, 2) := by decide +kernel
theorem dX4_greatestShare_121 : decode cX4_greatestShare 121 = .ok (.iload 5, 2) := by decide +kernel
theorem dX4_greatestShare_123 : decode cX4_greatestShare 123 = .ok (.imul, 1) := by decide +kernel
theorem dX4_greatestShare_124 : decode cX4_greatestShare 124 = .ok (.iload 4, 2) := by decide +kernel
theorem dX4_greatestShare_126 : decode cX4_greatestShare 126 = .ok (.iload 8, 2) := by decide +kernel
theorem dX4_greatestShare_128 : decode cX4_greatestShare 128 = .ok (.imul, 1) := by decide +kernel
theorem dX4_greatestShare_129 : decode cX4_greatestShare 129 = .ok (.if_icmp .le 14, 3) := by decide +kernel
theorem dX4_greatestShare_132 : decode cX4_greatestShare 132 = .ok (.iload 6, 2) := by decide +kernel
theorem dX4_greatestShare_134 : decode cX4_greatestShare 134 = .ok (.istore_n 3, 1) := by decide +kernel
theorem dX4_greatestShare_135 : decode cX4_greatestShare 135 = .ok (.iload 7, 2) := by decide +kernel
theorem dX4_greatestShare_137 : decode cX4_greatestShare 137 = .ok (.istore 4, 2) := by decide +kernel
theorem dX4_greatestShare_139 : decode cX4_greatestShare 139 = .ok (.iload 8, 2) := by decide +kernel
theorem dX4_greatestShare_141 : decode cX4_greatestShare 141 = .ok (.istore 5, 2) := by decide +kernel
theorem dX4_greatestShare_143 : decode cX4_greatestShare 143 = .ok (.iinc 6 1, 3) := by decide +kernel
theorem dX4_greatestShare_146 : decode cX4_greatestShare 146 = .ok (.goto (-125), 3) := by decide +kernel
theorem dX4_greatestShare_149 : decode cX4_greatestShare 149 = .ok (.iload_n 3, 1) := by decide +kernel
theorem dX4_greatestShare_150 : decode cX4_greatestShare 150 = .ok (.ireturn, 1) := by decide +kernel
theorem dX4_isCandidate_0 : decode cX4_isCandidate 0 = .ok (.aload_n 0, 1) := by decide +kernel
theorem dX4_isCandidate_1 : decode cX4_isCandidate 1 = .ok (.getfield 26, 3) := by decide +kernel
theorem dX4_isCandidate_4 : decode cX4_isCandidate 4 = .ok (.getfield 111, 3) := by decide +kernel
theorem dX4_isCandidate_7 : decode cX4_isCandidate 7 = .ok (.iload_n 1, 1) := by decide +kernel
theorem dX4_isCandidate_8 : decode cX4_isCandidate 8 = .ok (.iaload, 1) := by decide +kernel
theorem dX4_isCandidate_9 : decode cX4_isCandidate 9 = .ok (.aload_n 0, 1) := by decide +kernel
theorem dX4_isCandidate_10 : decode cX4_isCandidate 10 = .ok (.getfield 26, 3) := by decide +kernel
theorem dX4_isCandidate_13 : decode cX4_isCandidate 13 = .ok (.getfield 111, 3) := by decide +kernel
theorem dX4_isCandidate_16 : decode cX4_isCandidate 16 = .ok (.iload_n 2, 1) := by decide +kernel
theorem dX4_isCandidate_17 : decode cX4_isCandidate 17 = .ok (.iaload, 1) := by decide +kernel
theorem dX4_isCandidate_18 : decode cX4_isCandidate 18 = .ok (.if_icmp .ne 15, 3) := by decide +kernel
theorem dX4_isCandidate_21 : decode cX4_isCandidate 21 = .ok (.aload_n 0, 1) := by decide +kernel
theorem dX4_isCandidate_22 : decode cX4_isCandidate 22 = .ok (.iload_n 1, 1) := by decide +kernel
theorem dX4_isCandidate_23 : decode cX4_isCandidate 23 = .ok (.invokevirtual 235, 3) := by decide +kernel
theorem dX4_isCandidate_26 : decode cX4_isCandidate 26 = .ok (.ifCond .eq 7, 3) := by decide +kernel
theorem dX4_isCandidate_29 : decode cX4_isCandidate 29 = .ok (.iconst 1, 1) := by decide +kernel
theorem dX4_isCandidate_30 : decode cX4_isCandidate 30 = .ok (.goto 4, 3) := by decide +kernel
theorem dX4_isCandidate_33 : decode cX4_isCandidate 33 = .ok (.iconst 0, 1) := by decide +kernel
theorem dX4_isCandidate_34 : decode cX4_isCandidate 34 = .ok (.ireturn, 1) := by decide +kernel
theorem dX4_agreement_0 : decode cX4_agreement 0 = .ok (.aload_n 0, 1) := by decide +kernel
theorem dX4_agreement_1 : decode cX4_agreement 1 = .ok (.iload_n 1, 1) := by decide +kernel
theorem dX4_agreement_2 : decode cX4_agreement 2 = .ok (.iload_n 2, 1) := by decide +kernel
theorem dX4_agreement_3 : decode cX4_agreement 3 = .ok (.invokevirtual 238, 3) := by decide +kernel
theorem dX4_agreement_6 : decode cX4_agreement 6 = .ok (.ifCond .ne 5, 3) := by decide +kernel
theorem dX4_agreement_9 : decode cX4_agreement 9 = .ok (.iconst 0, 1) := by decide +kernel
theorem dX4_agreement_10 : decode cX4_agreement 10 = .ok (.ireturn, 1) := by decide +kernel
theorem dX4_agreement_11 : decode cX4_agreement 11 = .ok (.aload_n 0, 1) := by decide +kernel
theorem dX4_agreement_12 : decode cX4_agreement 12 = .ok (.getfield 26, 3) := by decide +kernel
theorem dX4_agreement_15 : decode cX4_agreement 15 = .ok (.getfield 111, 3) := by decide +kernel
theorem dX4_agreement_18 : decode cX4_agreement 18 = .ok (.iload_n 2, 1) := by decide +kernel
theorem dX4_agreement_19 : decode cX4_agreement 19 = .ok (.iaload, 1) := by decide +kernel
theorem dX4_agreement_20 : decode cX4_agreement 20 = .ok (.istore_n 3, 1) := by decide +kernel
theorem dX4_agreement_21 : decode cX4_agreement 21 = .ok (.aload_n 0, 1) := by decide +kernel
theorem dX4_agreement_22 : decode cX4_agreement 22 = .ok (.getfield 12, 3) := by decide +kernel
theorem dX4_agreement_25 : decode cX4_agreement 25 = .ok (.iload_n 3, 1) := by decide +kernel
theorem dX4_agreement_26 : decode cX4_agreement 26 = .ok (.aload_n 0, 1) := by decide +kernel
theorem dX4_agreement_27 : decode cX4_agreement 27 = .ok (.getfield 26, 3) := by decide +kernel
theorem dX4_agreement_30 : decode cX4_agreement 30 = .ok (.getfield 154, 3) := by decide +kernel
theorem dX4_agreement_33 : decode cX4_agreement 33 = .ok (.iload_n 1, 1) := by decide +kernel
theorem dX4_agreement_34 : decode cX4_agreement 34 = .ok (.iaload, 1) := by decide +kernel
theorem dX4_agreement_35 : decode cX4_agreement 35 = .ok (.aload_n 0, 1) := by decide +kernel
theorem dX4_agreement_36 : decode cX4_agreement 36 = .ok (.getfield 26, 3) := by decide +kernel
theorem dX4_agreement_39 : decode cX4_agreement 39 = .ok (.getfield 154, 3) := by decide +kernel
theorem dX4_agreement_42 : decode cX4_agreement 42 = .ok (.iload_n 2, 1) := by decide +kernel
theorem dX4_agreement_43 : decode cX4_agreement 43 = .ok (.iaload, 1) := by decide +kernel
theorem dX4_agreement_44 : decode cX4_agreement 44 = .ok (.ior, 1) := by decide +kernel
theorem dX4_agreement_45 : decode cX4_agreement 45 = .ok (.invokevirtual 157, 3) := by decide +kernel
theorem dX4_agreement_48 : decode cX4_agreement 48 = .ok (.istore 4, 2) := by decide +kernel
theorem dX4_agreement_50 : decode cX4_agreement 50 = .ok (.aload_n 0, 1) := by decide +kernel
theorem dX4_agreement_51 : decode cX4_agreement 51 = .ok (.getfield 12, 3) := by decide +kernel
theorem dX4_agreement_54 : decode cX4_agreement 54 = .ok (.iload_n 3, 1) := by decide +kernel
theorem dX4_agreement_55 : decode cX4_agreement 55 = .ok (.aload_n 0, 1) := by decide +kernel
theorem dX4_agreement_56 : decode cX4_agreement 56 = .ok (.getfield 26, 3) := by decide +kernel
theorem dX4_agreement_59 : decode cX4_agreement 59 = .ok (.getfield 154, 3) := by decide +kernel
theorem dX4_agreement_62 : decode cX4_agreement 62 = .ok (.iload_n 1, 1) := by decide +kernel
theorem dX4_agreement_63 : decode cX4_agreement 63 = .ok (.iaload, 1) := by decide +kernel
theorem dX4_agreement_64 : decode cX4_agreement 64 = .ok (.aload_n 0, 1) := by decide +kernel
theorem dX4_agreement_65 : decode cX4_agreement 65 = .ok (.getfield 26, 3) := by decide +kernel
theorem dX4_agreement_68 : decode cX4_agreement 68 = .ok (.getfield 154, 3) := by decide +kernel
theorem dX4_agreement_71 : decode cX4_agreement 71 = .ok (.iload_n 2, 1) := by decide +kernel
theorem dX4_agreement_72 : decode cX4_agreement 72 = .ok (.iaload, 1) := by decide +kernel
theorem dX4_agreement_73 : decode cX4_agreement 73 = .ok (.iand, 1) := by decide +kernel
theorem dX4_agreement_74 : decode cX4_agreement 74 = .ok (.invokevirtual 157, 3) := by decide +kernel
theorem dX4_agreement_77 : decode cX4_agreement 77 = .ok (.istore 5, 2) := by decide +kernel
theorem dX4_agreement_79 : decode cX4_agreement 79 = .ok (.iload 4, 2) := by decide +kernel
theorem dX4_agreement_81 : decode cX4_agreement 81 = .ok (.ifCond .le 7, 3) := by decide +kernel
theorem dX4_agreement_84 : decode cX4_agreement 84 = .ok (.iconst 1, 1) := by decide +kernel
theorem dX4_agreement_85 : decode cX4_agreement 85 = .ok (.goto 4, 3) := by decide +kernel
theorem dX4_agreement_88 : decode cX4_agreement 88 = .ok (.iconst 0, 1) := by decide +kernel
theorem dX4_agreement_89 : decode cX4_agreement 89 = .ok (.istore 6, 2) := by decide +kernel
theorem dX4_agreement_91 : decode cX4_agreement 91 = .ok (.iload 6, 2) := by decide +kernel
theorem dX4_agreement_93 : decode cX4_agreement 93 = .ok (.ifCond .eq 22, 3) := by decide +kernel
theorem dX4_agreement_96 : decode cX4_agreement 96 = .ok (.aload_n 0, 1) := by decide +kernel
theorem dX4_agreement_97 : decode cX4_agreement 97 = .ok (.getfield 12, 3) := by decide +kernel
theorem dX4_agreement_100 : decode cX4_agreement 100 = .ok (.iload_n 3, 1) := by decide +kernel
theorem dX4_agreement_101 : decode cX4_agreement 101 = .ok (.iload 5, 2) := by decide +kernel
theorem dX4_agreement_103 : decode cX4_agreement 103 = .ok (.iload 4, 2) := by decide +kernel
theorem dX4_agreement_105 : decode cX4_agreement 105 = .ok (.invokevirtual 262, 3) := by decide +kernel
theorem dX4_agreement_108 : decode cX4_agreement 108 = .ok (.ifCond .eq 7, 3) := by decide +kernel
theorem dX4_agreement_111 : decode cX4_agreement 111 = .ok (.iconst 1, 1) := by decide +kernel
theorem dX4_agreement_112 : decode cX4_agreement 112 = .ok (.goto 4, 3) := by decide +kernel
theorem dX4_agreement_115 : decode cX4_agreement 115 = .ok (.iconst 0, 1) := by decide +kernel
theorem dX4_agreement_116 : decode cX4_agreement 116 = .ok (.istore 7, 2) := by decide +kernel
theorem dX4_agreement_118 : decode cX4_agreement 118 = .ok (.aload_n 0, 1) := by decide +kernel
theorem dX4_agreement_119 : decode cX4_agreement 119 = .ok (.getfield 26, 3) := by decide +kernel
theorem dX4_agreement_122 : decode cX4_agreement 122 = .ok (.getfield 247, 3) := by decide +kernel
theorem dX4_agreement_125 : decode cX4_agreement 125 = .ok (.iload_n 1, 1) := by decide +kernel
theorem dX4_agreement_126 : decode cX4_agreement 126 = .ok (.iaload, 1) := by decide +kernel
theorem dX4_agreement_127 : decode cX4_agreement 127 = .ok (.iconst (-1), 1) := by decide +kernel
theorem dX4_agreement_128 : decode cX4_agreement 128 = .ok (.if_icmp .eq 16, 3) := by decide +kernel
theorem dX4_agreement_131 : decode cX4_agreement 131 = .ok (.aload_n 0, 1) := by decide +kernel
theorem dX4_agreement_132 : decode cX4_agreement 132 = .ok (.getfield 26, 3) := by decide +kernel
theorem dX4_agreement_135 : decode cX4_agreement 135 = .ok (.getfield 247, 3) := by decide +kernel
theorem dX4_agreement_138 : decode cX4_agreement 138 = .ok (.iload_n 2, 1) := by decide +kernel
theorem dX4_agreement_139 : decode cX4_agreement 139 = .ok (.iaload, 1) := by decide +kernel
theorem dX4_agreement_140 : decode cX4_agreement 140 = .ok (.iconst (-1), 1) := by decide +kernel
theorem dX4_agreement_141 : decode cX4_agreement 141 = .ok (.if_icmp .ne 14, 3) := by decide +kernel
theorem dX4_agreement_144 : decode cX4_agreement 144 = .ok (.iload 7, 2) := by decide +kernel
theorem dX4_agreement_146 : decode cX4_agreement 146 = .ok (.ifCond .eq 7, 3) := by decide +kernel
theorem dX4_agreement_149 : decode cX4_agreement 149 = .ok (.iconst 2, 1) := by decide +kernel
theorem dX4_agreement_150 : decode cX4_agreement 150 = .ok (.goto 4, 3) := by decide +kernel
theorem dX4_agreement_153 : decode cX4_agreement 153 = .ok (.iconst 0, 1) := by decide +kernel
theorem dX4_agreement_154 : decode cX4_agreement 154 = .ok (.ireturn, 1) := by decide +kernel
theorem dX4_agreement_155 : decode cX4_agreement 155 = .ok (.aload_n 0, 1) := by decide +kernel
theorem dX4_agreement_156 : decode cX4_agreement 156 = .ok (.getfield 26, 3) := by decide +kernel
theorem dX4_agreement_159 : decode cX4_agreement 159 = .ok (.getfield 247, 3) := by decide +kernel
theorem dX4_agreement_162 : decode cX4_agreement 162 = .ok (.iload_n 1, 1) := by decide +kernel
theorem dX4_agreement_163 : decode cX4_agreement 163 = .ok (.iaload, 1) := by decide +kernel
theorem dX4_agreement_164 : decode cX4_agreement 164 = .ok (.aload_n 0, 1) := by decide +kernel
theorem dX4_agreement_165 : decode cX4_agreement 165 = .ok (.getfield 26, 3) := by decide +kernel
theorem dX4_agreement_168 : decode cX4_agreement 168 = .ok (.getfield 247, 3) := by decide +kernel
theorem dX4_agreement_171 : decode cX4_agreement 171 = .ok (.iload_n 2, 1) := by decide +kernel
theorem dX4_agreement_172 : decode cX4_agreement 172 = .ok (.iaload, 1) := by decide +kernel
theorem dX4_agreement_173 : decode cX4_agreement 173 = .ok (.invokestatic 258, 3) := by decide +kernel
theorem dX4_agreement_176 : decode cX4_agreement 176 = .ok (.lstore 8, 2) := by decide +kernel
theorem dX4_agreement_178 : decode cX4_agreement 178 = .ok (.aload_n 0, 1) := by decide +kernel
theorem dX4_agreement_179 : decode cX4_agreement 179 = .ok (.getfield 12, 3) := by decide +kernel
theorem dX4_agreement_182 : decode cX4_agreement 182 = .ok (.getfield 49, 3) := by decide +kernel
theorem dX4_agreement_185 : decode cX4_agreement 185 = .ok (.iload_n 3, 1) := by decide +kernel
theorem dX4_agreement_186 : decode cX4_agreement 186 = .ok (.iaload, 1) := by decide +kernel
theorem dX4_agreement_187 : decode cX4_agreement 187 = .ok (.i2l, 1) := by decide +kernel
theorem dX4_agreement_188 : decode cX4_agreement 188 = .ok (.aload_n 0, 1) := by decide +kernel
theorem dX4_agreement_189 : decode cX4_agreement 189 = .ok (.getfield 12, 3) := by decide +kernel
theorem dX4_agreement_192 : decode cX4_agreement 192 = .ok (.getfield 49, 3) := by decide +kernel
theorem dX4_agreement_195 : decode cX4_agreement 195 = .ok (.iload_n 3, 1) := by decide +kernel
theorem dX4_agreement_196 : decode cX4_agreement 196 = .ok (.iaload, 1) := by decide +kernel
theorem dX4_agreement_197 : decode cX4_agreement 197 = .ok (.i2l, 1) := by decide +kernel
theorem dX4_agreement_198 : decode cX4_agreement 198 = .ok (.lmul, 1) := by decide +kernel
theorem dX4_agreement_199 : decode cX4_agreement 199 = .ok (.lstore 10, 2) := by decide +kernel
theorem dX4_agreement_201 : decode cX4_agreement 201 = .ok (.iload 6, 2) := by decide +kernel
theorem dX4_agreement_203 : decode cX4_agreement 203 = .ok (.ifCond .eq 24, 3) := by decide +kernel
theorem dX4_agreement_206 : decode cX4_agreement 206 = .ok (.iload 7, 2) := by decide +kernel
theorem dX4_agreement_208 : decode cX4_agreement 208 = .ok (.ifCond .eq 15, 3) := by decide +kernel
theorem dX4_agreement_211 : decode cX4_agreement 211 = .ok (.lload 8, 2) := by decide +kernel
theorem dX4_agreement_213 : decode cX4_agreement 213 = .ok (.lload 10, 2) := by decide +kernel
theorem dX4_agreement_215 : decode cX4_agreement 215 = .ok (.lcmp, 1) := by decide +kernel
theorem dX4_agreement_216 : decode cX4_agreement 216 = .ok (.ifCond .gt 7, 3) := by decide +kernel
theorem dX4_agreement_219 : decode cX4_agreement 219 = .ok (.iconst 1, 1) := by decide +kernel
theorem dX4_agreement_220 : decode cX4_agreement 220 = .ok (.goto 24, 3) := by decide +kernel
theorem dX4_agreement_223 : decode cX4_agreement 223 = .ok (.iconst 0, 1) := by decide +kernel
theorem dX4_agreement_224 : decode cX4_agreement 224 = .ok (.goto 20, 3) := by decide +kernel
theorem dX4_agreement_227 : decode cX4_agreement 227 = .ok (.ldc2_w 265, 3) := by decide +kernel
theorem dX4_agreement_230 : decode cX4_agreement 230 = .ok (.lload 8, 2) := by decide +kernel
theorem dX4_agreement_232 : decode cX4_agreement 232 = .ok (.lmul, 1) := by decide +kernel
theorem dX4_agreement_233 : decode cX4_agreement 233 = .ok (.lload 10, 2) := by decide +kernel
theorem dX4_agreement_235 : decode cX4_agreement 235 = .ok (.lcmp, 1) := by decide +kernel
theorem dX4_agreement_236 : decode cX4_agreement 236 = .ok (.ifCond .gt 7, 3) := by decide +kernel
theorem dX4_agreement_239 : decode cX4_agreement 239 = .ok (.iconst 1, 1) := by decide +kernel
theorem dX4_agreement_240 : decode cX4_agreement 240 = .ok (.goto 4, 3) := by decide +kernel
theorem dX4_agreement_243 : decode cX4_agreement 243 = .ok (.iconst 0, 1) := by decide +kernel
theorem dX4_agreement_244 : decode cX4_agreement 244 = .ok (.istore 12, 2) := by decide +kernel
theorem dX4_agreement_246 : decode cX4_agreement 246 = .ok (.iload 12, 2) := by decide +kernel
theorem dX4_agreement_248 : decode cX4_agreement 248 = .ok (.ifCond .eq 7, 3) := by decide +kernel
theorem dX4_agreement_251 : decode cX4_agreement 251 = .ok (.iconst 1, 1) := by decide +kernel
theorem dX4_agreement_252 : decode cX4_agreement 252 = .ok (.goto 4, 3) := by decide +kernel
theorem dX4_agreement_255 : decode cX4_agreement 255 = .ok (.iconst 0, 1) := by decide +kernel
theorem dX4_agreement_256 : decode cX4_agreement 256 = .ok (.ireturn, 1) := by decide +kernel
theorem dX4_isWithinSpan_0 : decode cX4_isWithinSpan 0 = .ok (.aload_n 0, 1) := by decide +kernel
theorem dX4_isWithinSpan_1 : decode cX4_isWithinSpan 1 = .ok (.getfield 26, 3) := by decide +kernel
theorem dX4_isWithinSpan_4 : decode cX4_isWithinSpan 4 = .ok (.getfield 267, 3) := by decide +kernel
theorem dX4_isWithinSpan_7 : decode cX4_isWithinSpan 7 = .ok (.iload_n 2, 1) := by decide +kernel
theorem dX4_isWithinSpan_8 : decode cX4_isWithinSpan 8 = .ok (.iaload, 1) := by decide +kernel
theorem dX4_isWithinSpan_9 : decode cX4_isWithinSpan 9 = .ok (.aload_n 0, 1) := by decide +kernel
theorem dX4_isWithinSpan_10 : decode cX4_isWithinSpan 10 = .ok (.getfield 26, 3) := by decide +kernel
theorem dX4_isWithinSpan_13 : decode cX4_isWithinSpan 13 = .ok (.getfield 267, 3) := by decide +kernel
theorem dX4_isWithinSpan_16 : decode cX4_isWithinSpan 16 = .ok (.iload_n 1, 1) := by decide +kernel
theorem dX4_isWithinSpan_17 : decode cX4_isWithinSpan 17 = .ok (.iaload, 1) := by decide +kernel
theorem dX4_isWithinSpan_18 : decode cX4_isWithinSpan 18 = .ok (.isub, 1) := by decide +kernel
theorem dX4_isWithinSpan_19 : decode cX4_isWithinSpan 19 = .ok (.aload_n 0, 1) := by decide +kernel
theorem dX4_isWithinSpan_20 : decode cX4_isWithinSpan 20 = .ok (.getfield 12, 3) := by decide +kernel
theorem dX4_isWithinSpan_23 : decode cX4_isWithinSpan 23 = .ok (.getfield 53, 3) := by decide +kernel
theorem dX4_isWithinSpan_26 : decode cX4_isWithinSpan 26 = .ok (.aload_n 0, 1) := by decide +kernel
theorem dX4_isWithinSpan_27 : decode cX4_isWithinSpan 27 = .ok (.getfield 26, 3) := by decide +kernel
theorem dX4_isWithinSpan_30 : decode cX4_isWithinSpan 30 = .ok (.getfield 111, 3) := by decide +kernel
theorem dX4_isWithinSpan_33 : decode cX4_isWithinSpan 33 = .ok (.iload_n 2, 1) := by decide +kernel
theorem dX4_isWithinSpan_34 : decode cX4_isWithinSpan 34 = .ok (.iaload, 1) := by decide +kernel
theorem dX4_isWithinSpan_35 : decode cX4_isWithinSpan 35 = .ok (.iaload, 1) := by decide +kernel
theorem dX4_isWithinSpan_36 : decode cX4_isWithinSpan 36 = .ok (.if_icmp .gt 7, 3) := by decide +kernel
theorem dX4_isWithinSpan_39 : decode cX4_isWithinSpan 39 = .ok (.iconst 1, 1) := by decide +kernel
theorem dX4_isWithinSpan_40 : decode cX4_isWithinSpan 40 = .ok (.goto 4, 3) := by decide +kernel
theorem dX4_isWithinSpan_43 : decode cX4_isWithinSpan 43 = .ok (.iconst 0, 1) := by decide +kernel
theorem dX4_isWithinSpan_44 : decode cX4_isWithinSpan 44 = .ok (.ireturn, 1) := by decide +kernel
theorem dX4_eastOf_0 : decode cX4_eastOf 0 = .ok (.iload_n 0, 1) := by decide +kernel
theorem dX4_eastOf_1 : decode cX4_eastOf 1 = .ok (.sipush 10000, 3) := by decide +kernel
theorem dX4_eastOf_4 : decode cX4_eastOf 4 = .ok (.idiv, 1) := by decide +kernel
theorem dX4_eastOf_5 : decode cX4_eastOf 5 = .ok (.ireturn, 1) := by decide +kernel
theorem dX4_northOf_0 : decode cX4_northOf 0 = .ok (.iload_n 0, 1) := by decide +kernel
theorem dX4_northOf_1 : decode cX4_northOf 1 = .ok (.sipush 10000, 3) := by decide +kernel
theorem dX4_northOf_4 : decode cX4_northOf 4 = .ok (.irem, 1) := by decide +kernel
theorem dX4_northOf_5 : decode cX4_northOf 5 = .ok (.ireturn, 1) := by decide +kernel
theorem dX4_squareBetween_0 : decode cX4_squareBetween 0 = .ok (.iload_n 0, 1) := by decide +kernel
theorem dX4_squareBetween_1 : decode cX4_squareBetween 1 = .ok (.invokestatic 270, 3) := by decide +kernel
theorem dX4_squareBetween_4 : decode cX4_squareBetween 4 = .ok (.iload_n 1, 1) := by decide +kernel
theorem dX4_squareBetween_5 : decode cX4_squareBetween 5 = .ok (.invokestatic 270, 3) := by decide +kernel
theorem dX4_squareBetween_8 : decode cX4_squareBetween 8 = .ok (.isub, 1) := by decide +kernel
theorem dX4_squareBetween_9 : decode cX4_squareBetween 9 = .ok (.i2l, 1) := by decide +kernel
theorem dX4_squareBetween_10 : decode cX4_squareBetween 10 = .ok (.lstore_n 2, 1) := by decide +kernel
theorem dX4_squareBetween_11 : decode cX4_squareBetween 11 = .ok (.iload_n 0, 1) := by decide +kernel
theorem dX4_squareBetween_12 : decode cX4_squareBetween 12 = .ok (.invokestatic 273, 3) := by decide +kernel
theorem dX4_squareBetween_15 : decode cX4_squareBetween 15 = .ok (.iload_n 1, 1) := by decide +kernel
theorem dX4_squareBetween_16 : decode cX4_squareBetween 16 = .ok (.invokestatic 273, 3) := by decide +kernel
theorem dX4_squareBetween_19 : decode cX4_squareBetween 19 = .ok (.isub, 1) := by decide +kernel
theorem dX4_squareBetween_20 : decode cX4_squareBetween 20 = .ok (.i2l, 1) := by decide +kernel
theorem dX4_squareBetween_21 : decode cX4_squareBetween 21 = .ok (.lstore 4, 2) := by decide +kernel
theorem dX4_squareBetween_23 : decode cX4_squareBetween 23 = .ok (.lload_n 2, 1) := by decide +kernel
theorem dX4_squareBetween_24 : decode cX4_squareBetween 24 = .ok (.lload_n 2, 1) := by decide +kernel
theorem dX4_squareBetween_25 : decode cX4_squareBetween 25 = .ok (.lmul, 1) := by decide +kernel
theorem dX4_squareBetween_26 : decode cX4_squareBetween 26 = .ok (.lload 4, 2) := by decide +kernel
theorem dX4_squareBetween_28 : decode cX4_squareBetween 28 = .ok (.lload 4, 2) := by decide +kernel
theorem dX4_squareBetween_30 : decode cX4_squareBetween 30 = .ok (.lmul, 1) := by decide +kernel
theorem dX4_squareBetween_31 : decode cX4_squareBetween 31 = .ok (.ladd, 1) := by decide +kernel
theorem dX4_squareBetween_32 : decode cX4_squareBetween 32 = .ok (.lreturn, 1) := by decide +kernel
theorem dX6_init_0 : decode cX6_init 0 = .ok (.aload_n 0, 1) := by decide +kernel
theorem dX6_init_1 : decode cX6_init 1 = .ok (.invokespecial 1, 3) := by decide +kernel
theorem dX6_init_4 : decode cX6_init 4 = .ok (.aload_n 0, 1) := by decide +kernel
theorem dX6_init_5 : decode cX6_init 5 = .ok (.bipush 8, 2) := by decide +kernel
theorem dX6_init_7 : decode cX6_init 7 = .ok (.newarray .int, 2) := by decide +kernel
theorem dX6_init_9 : decode cX6_init 9 = .ok (.dup, 1) := by decide +kernel
theorem dX6_init_10 : decode cX6_init 10 = .ok (.iconst 0, 1) := by decide +kernel
end
section
theorem dX6_init_11 : decode cX6_init 11 = .ok (.sipush 200, 3) := by decide +kernel
theorem dX6_init_14 : decode cX6_init 14 = .ok (.iastore, 1) := by decide +kernel
theorem dX6_init_15 : decode cX6_init 15 = .ok (.dup, 1) := by decide +kernel
theorem dX6_init_16 : decode cX6_init 16 = .ok (.iconst 1, 1) := by decide +kernel
theorem dX6_init_17 : decode cX6_init 17 = .ok (.sipush 200, 3) := by decide +kernel
theorem dX6_init_20 : decode cX6_init 20 = .ok (.iastore, 1) := by decide +kernel
theorem dX6_init_21 : decode cX6_init 21 = .ok (.dup, 1) := by decide +kernel
theorem dX6_init_22 : decode cX6_init 22 = .ok (.iconst 2, 1) := by decide +kernel
theorem dX6_init_23 : decode cX6_init 23 = .ok (.sipush 200, 3) := by decide +kernel
theorem dX6_init_26 : decode cX6_init 26 = .ok (.iastore, 1) := by decide +kernel
theorem dX6_init_27 : decode cX6_init 27 = .ok (.dup, 1) := by decide +kernel
theorem dX6_init_28 : decode cX6_init 28 = .ok (.iconst 3, 1) := by decide +kernel
theorem dX6_init_29 : decode cX6_init 29 = .ok (.sipush 200, 3) := by decide +kernel
theorem dX6_init_32 : decode cX6_init 32 = .ok (.iastore, 1) := by decide +kernel
theorem dX6_init_33 : decode cX6_init 33 = .ok (.dup, 1) := by decide +kernel
theorem dX6_init_34 : decode cX6_init 34 = .ok (.iconst 4, 1) := by decide +kernel
theorem dX6_init_35 : decode cX6_init 35 = .ok (.sipush 200, 3) := by decide +kernel
theorem dX6_init_38 : decode cX6_init 38 = .ok (.iastore, 1) := by decide +kernel
theorem dX6_init_39 : decode cX6_init 39 = .ok (.dup, 1) := by decide +kernel
theorem dX6_init_40 : decode cX6_init 40 = .ok (.iconst 5, 1) := by decide +kernel
theorem dX6_init_41 : decode cX6_init 41 = .ok (.sipush 200, 3) := by decide +kernel
theorem dX6_init_44 : decode cX6_init 44 = .ok (.iastore, 1) := by decide +kernel
theorem dX6_init_45 : decode cX6_init 45 = .ok (.dup, 1) := by decide +kernel
theorem dX6_init_46 : decode cX6_init 46 = .ok (.bipush 6, 2) := by decide +kernel
theorem dX6_init_48 : decode cX6_init 48 = .ok (.sipush 200, 3) := by decide +kernel
theorem dX6_init_51 : decode cX6_init 51 = .ok (.iastore, 1) := by decide +kernel
theorem dX6_init_52 : decode cX6_init 52 = .ok (.dup, 1) := by decide +kernel
theorem dX6_init_53 : decode cX6_init 53 = .ok (.bipush 7, 2) := by decide +kernel
theorem dX6_init_55 : decode cX6_init 55 = .ok (.sipush 200, 3) := by decide +kernel
theorem dX6_init_58 : decode cX6_init 58 = .ok (.iastore, 1) := by decide +kernel
theorem dX6_init_59 : decode cX6_init 59 = .ok (.putfield 7, 3) := by decide +kernel
theorem dX6_init_62 : decode cX6_init 62 = .ok (.aload_n 0, 1) := by decide +kernel
theorem dX6_init_63 : decode cX6_init 63 = .ok (.bipush 8, 2) := by decide +kernel
theorem dX6_init_65 : decode cX6_init 65 = .ok (.newarray .int, 2) := by decide +kernel
theorem dX6_init_67 : decode cX6_init 67 = .ok (.dup, 1) := by decide +kernel
theorem dX6_init_68 : decode cX6_init 68 = .ok (.iconst 0, 1) := by decide +kernel
theorem dX6_init_69 : decode cX6_init 69 = .ok (.sipush 600, 3) := by decide +kernel
theorem dX6_init_72 : decode cX6_init 72 = .ok (.iastore, 1) := by decide +kernel
theorem dX6_init_73 : decode cX6_init 73 = .ok (.dup, 1) := by decide +kernel
theorem dX6_init_74 : decode cX6_init 74 = .ok (.iconst 1, 1) := by decide +kernel
theorem dX6_init_75 : decode cX6_init 75 = .ok (.sipush 600, 3) := by decide +kernel
theorem dX6_init_78 : decode cX6_init 78 = .ok (.iastore, 1) := by decide +kernel
theorem dX6_init_79 : decode cX6_init 79 = .ok (.dup, 1) := by decide +kernel
theorem dX6_init_80 : decode cX6_init 80 = .ok (.iconst 2, 1) := by decide +kernel
theorem dX6_init_81 : decode cX6_init 81 = .ok (.sipush 600, 3) := by decide +kernel
theorem dX6_init_84 : decode cX6_init 84 = .ok (.iastore, 1) := by decide +kernel
theorem dX6_init_85 : decode cX6_init 85 = .ok (.dup, 1) := by decide +kernel
theorem dX6_init_86 : decode cX6_init 86 = .ok (.iconst 3, 1) := by decide +kernel
theorem dX6_init_87 : decode cX6_init 87 = .ok (.sipush 600, 3) := by decide +kernel
theorem dX6_init_90 : decode cX6_init 90 = .ok (.iastore, 1) := by decide +kernel
theorem dX6_init_91 : decode cX6_init 91 = .ok (.dup, 1) := by decide +kernel
theorem dX6_init_92 : decode cX6_init 92 = .ok (.iconst 4, 1) := by decide +kernel
theorem dX6_init_93 : decode cX6_init 93 = .ok (.sipush 600, 3) := by decide +kernel
theorem dX6_init_96 : decode cX6_init 96 = .ok (.iastore, 1) := by decide +kernel
theorem dX6_init_97 : decode cX6_init 97 = .ok (.dup, 1) := by decide +kernel
theorem dX6_init_98 : decode cX6_init 98 = .ok (.iconst 5, 1) := by decide +kernel
theorem dX6_init_99 : decode cX6_init 99 = .ok (.sipush 600, 3) := by decide +kernel
theorem dX6_init_102 : decode cX6_init 102 = .ok (.iastore, 1) := by decide +kernel
theorem dX6_init_103 : decode cX6_init 103 = .ok (.dup, 1) := by decide +kernel
theorem dX6_init_104 : decode cX6_init 104 = .ok (.bipush 6, 2) := by decide +kernel
theorem dX6_init_106 : decode cX6_init 106 = .ok (.sipush 600, 3) := by decide +kernel
theorem dX6_init_109 : decode cX6_init 109 = .ok (.iastore, 1) := by decide +kernel
theorem dX6_init_110 : decode cX6_init 110 = .ok (.dup, 1) := by decide +kernel
theorem dX6_init_111 : decode cX6_init 111 = .ok (.bipush 7, 2) := by decide +kernel
theorem dX6_init_113 : decode cX6_init 113 = .ok (.sipush 600, 3) := by decide +kernel
theorem dX6_init_116 : decode cX6_init 116 = .ok (.iastore, 1) := by decide +kernel
theorem dX6_init_117 : decode cX6_init 117 = .ok (.putfield 13, 3) := by decide +kernel
theorem dX6_init_120 : decode cX6_init 120 = .ok (.aload_n 0, 1) := by decide +kernel
theorem dX6_init_121 : decode cX6_init 121 = .ok (.bipush 8, 2) := by decide +kernel
theorem dX6_init_123 : decode cX6_init 123 = .ok (.newarray .int, 2) := by decide +kernel
theorem dX6_init_125 : decode cX6_init 125 = .ok (.dup, 1) := by decide +kernel
theorem dX6_init_126 : decode cX6_init 126 = .ok (.iconst 0, 1) := by decide +kernel
theorem dX6_init_127 : decode cX6_init 127 = .ok (.iconst 1, 1) := by decide +kernel
theorem dX6_init_128 : decode cX6_init 128 = .ok (.iastore, 1) := by decide +kernel
theorem dX6_init_129 : decode cX6_init 129 = .ok (.dup, 1) := by decide +kernel
theorem dX6_init_130 : decode cX6_init 130 = .ok (.iconst 1, 1) := by decide +kernel
theorem dX6_init_131 : decode cX6_init 131 = .ok (.iconst 1, 1) := by decide +kernel
theorem dX6_init_132 : decode cX6_init 132 = .ok (.iastore, 1) := by decide +kernel
theorem dX6_init_133 : decode cX6_init 133 = .ok (.dup, 1) := by decide +kernel
theorem dX6_init_134 : decode cX6_init 134 = .ok (.iconst 2, 1) := by decide +kernel
theorem dX6_init_135 : decode cX6_init 135 = .ok (.iconst 1, 1) := by decide +kernel
theorem dX6_init_136 : decode cX6_init 136 = .ok (.iastore, 1) := by decide +kernel
theorem dX6_init_137 : decode cX6_init 137 = .ok (.dup, 1) := by decide +kernel
theorem dX6_init_138 : decode cX6_init 138 = .ok (.iconst 3, 1) := by decide +kernel
theorem dX6_init_139 : decode cX6_init 139 = .ok (.iconst 1, 1) := by decide +kernel
theorem dX6_init_140 : decode cX6_init 140 = .ok (.iastore, 1) := by decide +kernel
theorem dX6_init_141 : decode cX6_init 141 = .ok (.dup, 1) := by decide +kernel
theorem dX6_init_142 : decode cX6_init 142 = .ok (.iconst 4, 1) := by decide +kernel
theorem dX6_init_143 : decode cX6_init 143 = .ok (.iconst 1, 1) := by decide +kernel
theorem dX6_init_144 : decode cX6_init 144 = .ok (.iastore, 1) := by decide +kernel
theorem dX6_init_145 : decode cX6_init 145 = .ok (.dup, 1) := by decide +kernel
theorem dX6_init_146 : decode cX6_init 146 = .ok (.iconst 5, 1) := by decide +kernel
theorem dX6_init_147 : decode cX6_init 147 = .ok (.iconst 1, 1) := by decide +kernel
theorem dX6_init_148 : decode cX6_init 148 = .ok (.iastore, 1) := by decide +kernel
theorem dX6_init_149 : decode cX6_init 149 = .ok (.dup, 1) := by decide +kernel
theorem dX6_init_150 : decode cX6_init 150 = .ok (.bipush 6, 2) := by decide +kernel
theorem dX6_init_152 : decode cX6_init 152 = .ok (.iconst 1, 1) := by decide +kernel
theorem dX6_init_153 : decode cX6_init 153 = .ok (.iastore, 1) := by decide +kernel
theorem dX6_init_154 : decode cX6_init 154 = .ok (.dup, 1) := by decide +kernel
theorem dX6_init_155 : decode cX6_init 155 = .ok (.bipush 7, 2) := by decide +kernel
theorem dX6_init_157 : decode cX6_init 157 = .ok (.iconst 1, 1) := by decide +kernel
theorem dX6_init_158 : decode cX6_init 158 = .ok (.iastore, 1) := by decide +kernel
theorem dX6_init_159 : decode cX6_init 159 = .ok (.putfield 16, 3) := by decide +kernel
theorem dX6_init_162 : decode cX6_init 162 = .ok (.aload_n 0, 1) := by decide +kernel
theorem dX6_init_163 : decode cX6_init 163 = .ok (.bipush 8, 2) := by decide +kernel
theorem dX6_init_165 : decode cX6_init 165 = .ok (.newarray .int, 2) := by decide +kernel
theorem dX6_init_167 : decode cX6_init 167 = .ok (.dup, 1) := by decide +kernel
theorem dX6_init_168 : decode cX6_init 168 = .ok (.iconst 0, 1) := by decide +kernel
theorem dX6_init_169 : decode cX6_init 169 = .ok (.iconst 2, 1) := by decide +kernel
theorem dX6_init_170 : decode cX6_init 170 = .ok (.iastore, 1) := by decide +kernel
theorem dX6_init_171 : decode cX6_init 171 = .ok (.dup, 1) := by decide +kernel
theorem dX6_init_172 : decode cX6_init 172 = .ok (.iconst 1, 1) := by decide +kernel
theorem dX6_init_173 : decode cX6_init 173 = .ok (.iconst 2, 1) := by decide +kernel
theorem dX6_init_174 : decode cX6_init 174 = .ok (.iastore, 1) := by decide +kernel
theorem dX6_init_175 : decode cX6_init 175 = .ok (.dup, 1) := by decide +kernel
theorem dX6_init_176 : decode cX6_init 176 = .ok (.iconst 2, 1) := by decide +kernel
theorem dX6_init_177 : decode cX6_init 177 = .ok (.iconst 2, 1) := by decide +kernel
theorem dX6_init_178 : decode cX6_init 178 = .ok (.iastore, 1) := by decide +kernel
theorem dX6_init_179 : decode cX6_init 179 = .ok (.dup, 1) := by decide +kernel
theorem dX6_init_180 : decode cX6_init 180 = .ok (.iconst 3, 1) := by decide +kernel
theorem dX6_init_181 : decode cX6_init 181 = .ok (.iconst 2, 1) := by decide +kernel
theorem dX6_init_182 : decode cX6_init 182 = .ok (.iastore, 1) := by decide +kernel
theorem dX6_init_183 : decode cX6_init 183 = .ok (.dup, 1) := by decide +kernel
theorem dX6_init_184 : decode cX6_init 184 = .ok (.iconst 4, 1) := by decide +kernel
theorem dX6_init_185 : decode cX6_init 185 = .ok (.iconst 2, 1) := by decide +kernel
theorem dX6_init_186 : decode cX6_init 186 = .ok (.iastore, 1) := by decide +kernel
theorem dX6_init_187 : decode cX6_init 187 = .ok (.dup, 1) := by decide +kernel
theorem dX6_init_188 : decode cX6_init 188 = .ok (.iconst 5, 1) := by decide +kernel
theorem dX6_init_189 : decode cX6_init 189 = .ok (.iconst 2, 1) := by decide +kernel
theorem dX6_init_190 : decode cX6_init 190 = .ok (.iastore, 1) := by decide +kernel
theorem dX6_init_191 : decode cX6_init 191 = .ok (.dup, 1) := by decide +kernel
theorem dX6_init_192 : decode cX6_init 192 = .ok (.bipush 6, 2) := by decide +kernel
theorem dX6_init_194 : decode cX6_init 194 = .ok (.iconst 2, 1) := by decide +kernel
theorem dX6_init_195 : decode cX6_init 195 = .ok (.iastore, 1) := by decide +kernel
theorem dX6_init_196 : decode cX6_init 196 = .ok (.dup, 1) := by decide +kernel
theorem dX6_init_197 : decode cX6_init 197 = .ok (.bipush 7, 2) := by decide +kernel
theorem dX6_init_199 : decode cX6_init 199 = .ok (.iconst 2, 1) := by decide +kernel
theorem dX6_init_200 : decode cX6_init 200 = .ok (.iastore, 1) := by decide +kernel
theorem dX6_init_201 : decode cX6_init 201 = .ok (.putfield 19, 3) := by decide +kernel
theorem dX6_init_204 : decode cX6_init 204 = .ok (.aload_n 0, 1) := by decide +kernel
theorem dX6_init_205 : decode cX6_init 205 = .ok (.sipush 256, 3) := by decide +kernel
theorem dX6_init_208 : decode cX6_init 208 = .ok (.newarray .int, 2) := by decide +kernel
theorem dX6_init_210 : decode cX6_init 210 = .ok (.putfield 22, 3) := by decide +kernel
theorem dX6_init_213 : decode cX6_init 213 = .ok (.aload_n 0, 1) := by decide +kernel
theorem dX6_init_214 : decode cX6_init 214 = .ok (.bipush 8, 2) := by decide +kernel
theorem dX6_init_216 : decode cX6_init 216 = .ok (.newarray .int, 2) := by decide +kernel
theorem dX6_init_218 : decode cX6_init 218 = .ok (.putfield 25, 3) := by decide +kernel
theorem dX6_init_221 : decode cX6_init 221 = .ok (.aload_n 0, 1) := by decide +kernel
theorem dX6_init_222 : decode cX6_init 222 = .ok (.bipush 64, 2) := by decide +kernel
theorem dX6_init_224 : decode cX6_init 224 = .ok (.newarray .int, 2) := by decide +kernel
theorem dX6_init_226 : decode cX6_init 226 = .ok (.putfield 28, 3) := by decide +kernel
theorem dX6_init_229 : decode cX6_init 229 = .ok (.aload_n 0, 1) := by decide +kernel
theorem dX6_init_230 : decode cX6_init 230 = .ok (.bipush 120, 2) := by decide +kernel
theorem dX6_init_232 : decode cX6_init 232 = .ok (.newarray .int, 2) := by decide +kernel
theorem dX6_init_234 : decode cX6_init 234 = .ok (.putfield 31, 3) := by decide +kernel
theorem dX6_init_237 : decode cX6_init 237 = .ok (.aload_n 0, 1) := by decide +kernel
theorem dX6_init_238 : decode cX6_init 238 = .ok (.bipush 120, 2) := by decide +kernel
theorem dX6_init_240 : decode cX6_init 240 = .ok (.newarray .int, 2) := by decide +kernel
theorem dX6_init_242 : decode cX6_init 242 = .ok (.putfield 34, 3) := by decide +kernel
theorem dX6_init_245 : decode cX6_init 245 = .ok (.aload_n 0, 1) := by decide +kernel
theorem dX6_init_246 : decode cX6_init 246 = .ok (.bipush 120, 2) := by decide +kernel
theorem dX6_init_248 : decode cX6_init 248 = .ok (.newarray .int, 2) := by decide +kernel
theorem dX6_init_250 : decode cX6_init 250 = .ok (.putfield 37, 3) := by decide +kernel
theorem dX6_init_253 : decode cX6_init 253 = .ok (.aload_n 0, 1) := by decide +kernel
theorem dX6_init_254 : decode cX6_init 254 = .ok (.bipush 120, 2) := by decide +kernel
theorem dX6_init_256 : decode cX6_init 256 = .ok (.newarray .int, 2) := by decide +kernel
theorem dX6_init_258 : decode cX6_init 258 = .ok (.putfield 40, 3) := by decide +kernel
theorem dX6_init_261 : decode cX6_init 261 = .ok (.aload_n 0, 1) := by decide +kernel
theorem dX6_init_262 : decode cX6_init 262 = .ok (.bipush 120, 2) := by decide +kernel
theorem dX6_init_264 : decode cX6_init 264 = .ok (.newarray .int, 2) := by decide +kernel
theorem dX6_init_266 : decode cX6_init 266 = .ok (.putfield 43, 3) := by decide +kernel
theorem dX6_init_269 : decode cX6_init 269 = .ok (.aload_n 0, 1) := by decide +kernel
theorem dX6_init_270 : decode cX6_init 270 = .ok (.bipush 120, 2) := by decide +kernel
theorem dX6_init_272 : decode cX6_init 272 = .ok (.newarray .int, 2) := by decide +kernel
theorem dX6_init_274 : decode cX6_init 274 = .ok (.putfield 46, 3) := by decide +kernel
theorem dX6_init_277 : decode cX6_init 277 = .ok (.aload_n 0, 1) := by decide +kernel
theorem dX6_init_278 : decode cX6_init 278 = .ok (.bipush 120, 2) := by decide +kernel
theorem dX6_init_280 : decode cX6_init 280 = .ok (.newarray .int, 2) := by decide +kernel
theorem dX6_init_282 : decode cX6_init 282 = .ok (.putfield 49, 3) := by decide +kernel
theorem dX6_init_285 : decode cX6_init 285 = .ok (.aload_n 0, 1) := by decide +kernel
theorem dX6_init_286 : decode cX6_init 286 = .ok (.bipush 120, 2) := by decide +kernel
theorem dX6_init_288 : decode cX6_init 288 = .ok (.newarray .int, 2) := by decide +kernel
theorem dX6_init_290 : decode cX6_init 290 = .ok (.putfield 52, 3) := by decide +kernel
theorem dX6_init_293 : decode cX6_init 293 = .ok (.aload_n 0, 1) := by decide +kernel
theorem dX6_init_294 : decode cX6_init 294 = .ok (.bipush 120, 2) := by decide +kernel
theorem dX6_init_296 : decode cX6_init 296 = .ok (.newarray .int, 2) := by decide +kernel
theorem dX6_init_298 : decode cX6_init 298 = .ok (.putfield 55, 3) := by decide +kernel
theorem dX6_init_301 : decode cX6_init 301 = .ok (.aload_n 0, 1) := by decide +kernel
theorem dX6_init_302 : decode cX6_init 302 = .ok (.bipush 60, 2) := by decide +kernel
theorem dX6_init_304 : decode cX6_init 304 = .ok (.newarray .int, 2) := by decide +kernel
theorem dX6_init_306 : decode cX6_init 306 = .ok (.putfield 58, 3) := by decide +kernel
theorem dX6_init_309 : decode cX6_init 309 = .ok (.aload_n 0, 1) := by decide +kernel
theorem dX6_init_310 : decode cX6_init 310 = .ok (.bipush 60, 2) := by decide +kernel
theorem dX6_init_312 : decode cX6_init 312 = .ok (.newarray .int, 2) := by decide +kernel
theorem dX6_init_314 : decode cX6_init 314 = .ok (.putfield 61, 3) := by decide +kernel
theorem dX6_init_317 : decode cX6_init 317 = .ok (.aload_n 0, 1) := by decide +kernel
theorem dX6_init_318 : decode cX6_init 318 = .ok (.bipush 60, 2) := by decide +kernel
theorem dX6_init_320 : decode cX6_init 320 = .ok (.newarray .int, 2) := by decide +kernel
theorem dX6_init_322 : decode cX6_init 322 = .ok (.putfield 64, 3) := by decide +kernel
theorem dX6_init_325 : decode cX6_init 325 = .ok (.aload_n 0, 1) := by decide +kernel
theorem dX6_init_326 : decode cX6_init 326 = .ok (.bipush 60, 2) := by decide +kernel
theorem dX6_init_328 : decode cX6_init 328 = .ok (.newarray .int, 2) := by decide +kernel
theorem dX6_init_330 : decode cX6_init 330 = .ok (.putfield 67, 3) := by decide +kernel
theorem dX6_init_333 : decode cX6_init 333 = .ok (.iconst 0, 1) := by decide +kernel
theorem dX6_init_334 : decode cX6_init 334 = .ok (.istore_n 1, 1) := by decide +kernel
theorem dX6_init_335 : decode cX6_init 335 = .ok (.iload_n 1, 1) := by decide +kernel
theorem dX6_init_336 : decode cX6_init 336 = .ok (.sipush 256, 3) := by decide +kernel
theorem dX6_init_339 : decode cX6_init 339 = .ok (.if_icmp .ge 16, 3) := by decide +kernel
theorem dX6_init_342 : decode cX6_init 342 = .ok (.aload_n 0, 1) := by decide +kernel
theorem dX6_init_343 : decode cX6_init 343 = .ok (.getfield 22, 3) := by decide +kernel
theorem dX6_init_346 : decode cX6_init 346 = .ok (.iload_n 1, 1) := by decide +kernel
theorem dX6_init_347 : decode cX6_init 347 = .ok (.iconst 1, 1) := by decide +kernel
theorem dX6_init_348 : decode cX6_init 348 = .ok (.iastore, 1) := by decide +kernel
theorem dX6_init_349 : decode cX6_init 349 = .ok (.iinc 1 1, 3) := by decide +kernel
theorem dX6_init_352 : decode cX6_init 352 = .ok (.goto (-17), 3) := by decide +kernel
theorem dX6_init_355 : decode cX6_init 355 = .ok (.return_, 1) := by decide +kernel
theorem dX6_thrown_0 : decode cX6_thrown 0 = .ok (.aload_n 0, 1) := by decide +kernel
theorem dX6_thrown_1 : decode cX6_thrown 1 = .ok (.getfield 70, 3) := by decide +kernel
theorem dX6_thrown_4 : decode cX6_thrown 4 = .ok (.ireturn, 1) := by decide +kernel
theorem dX6_throwing_0 : decode cX6_throwing 0 = .ok (.aload_n 0, 1) := by decide +kernel
theorem dX6_throwing_1 : decode cX6_throwing 1 = .ok (.iload_n 1, 1) := by decide +kernel
theorem dX6_throwing_2 : decode cX6_throwing 2 = .ok (.ifCond .eq 7, 3) := by decide +kernel
theorem dX6_throwing_5 : decode cX6_throwing 5 = .ok (.iconst 1, 1) := by decide +kernel
theorem dX6_throwing_6 : decode cX6_throwing 6 = .ok (.goto 20, 3) := by decide +kernel
theorem dX6_throwing_9 : decode cX6_throwing 9 = .ok (.iload_n 2, 1) := by decide +kernel
theorem dX6_throwing_10 : decode cX6_throwing 10 = .ok (.ifCond .eq 7, 3) := by decide +kernel
theorem dX6_throwing_13 : decode cX6_throwing 13 = .ok (.iconst 2, 1) := by decide +kernel
theorem dX6_throwing_14 : decode cX6_throwing 14 = .ok (.goto 12, 3) := by decide +kernel
theorem dX6_throwing_17 : decode cX6_throwing 17 = .ok (.iload_n 3, 1) := by decide +kernel
theorem dX6_throwing_18 : decode cX6_throwing 18 = .ok (.ifCond .eq 7, 3) := by decide +kernel
theorem dX6_throwing_21 : decode cX6_throwing 21 = .ok (.iconst 3, 1) := by decide +kernel
theorem dX6_throwing_22 : decode cX6_throwing 22 = .ok (.goto 4, 3) := by decide +kernel
theorem dX6_throwing_25 : decode cX6_throwing 25 = .ok (.iconst 0, 1) := by decide +kernel
theorem dX6_throwing_26 : decode cX6_throwing 26 = .ok (.putfield 70, 3) := by decide +kernel
theorem dX6_throwing_29 : decode cX6_throwing 29 = .ok (.aload_n 0, 1) := by decide +kernel
theorem dX6_throwing_30 : decode cX6_throwing 30 = .ok (.getfield 70, 3) := by decide +kernel
theorem dX6_throwing_33 : decode cX6_throwing 33 = .ok (.ifCond .le 7, 3) := by decide +kernel
theorem dX6_throwing_36 : decode cX6_throwing 36 = .ok (.iconst 1, 1) := by decide +kernel
theorem dX6_throwing_37 : decode cX6_throwing 37 = .ok (.goto 4, 3) := by decide +kernel
theorem dX6_throwing_40 : decode cX6_throwing 40 = .ok (.iconst 0, 1) := by decide +kernel
theorem dX6_throwing_41 : decode cX6_throwing 41 = .ok (.ireturn, 1) := by decide +kernel
theorem dX6_in_0 : decode cX6_in 0 = .ok (.iload_n 0, 1) := by decide +kernel
theorem dX6_in_1 : decode cX6_in 1 = .ok (.iload_n 1, 1) := by decide +kernel
theorem dX6_in_2 : decode cX6_in 2 = .ok (.if_icmp .lt 12, 3) := by decide +kernel
theorem dX6_in_5 : decode cX6_in 5 = .ok (.iload_n 0, 1) := by decide +kernel
theorem dX6_in_6 : decode cX6_in 6 = .ok (.iload_n 2, 1) := by decide +kernel
theorem dX6_in_7 : decode cX6_in 7 = .ok (.if_icmp .gt 7, 3) := by decide +kernel
theorem dX6_in_10 : decode cX6_in 10 = .ok (.iconst 1, 1) := by decide +kernel
theorem dX6_in_11 : decode cX6_in 11 = .ok (.goto 4, 3) := by decide +kernel
theorem dX6_in_14 : decode cX6_in 14 = .ok (.iconst 0, 1) := by decide +kernel
theorem dX6_in_15 : decode cX6_in 15 = .ok (.ireturn, 1) := by decide +kernel
theorem dX6_isKind_0 : decode cX6_isKind 0 = .ok (.iload_n 0, 1) := by decide +kernel
theorem dX6_isKind_1 : decode cX6_isKind 1 = .ok (.iconst 0, 1) := by decide +kernel
theorem dX6_isKind_2 : decode cX6_isKind 2 = .ok (.bipush 7, 2) := by decide +kernel
theorem dX6_isKind_4 : decode cX6_isKind 4 = .ok (.invokestatic 74, 3) := by decide +kernel
theorem dX6_isKind_7 : decode cX6_isKind 7 = .ok (.ireturn, 1) := by decide +kernel
theorem dX6_isRoad_0 : decode cX6_isRoad 0 = .ok (.iload_n 0, 1) := by decide +kernel
theorem dX6_isRoad_1 : decode cX6_isRoad 1 = .ok (.iconst 0, 1) := by decide +kernel
theorem dX6_isRoad_2 : decode cX6_isRoad 2 = .ok (.bipush 7, 2) := by decide +kernel
theorem dX6_isRoad_4 : decode cX6_isRoad 4 = .ok (.invokestatic 74, 3) := by decide +kernel
theorem dX6_isRoad_7 : decode cX6_isRoad 7 = .ok (.ireturn, 1) := by decide +kernel
theorem dX6_isCall_0 : decode cX6_isCall 0 = .ok (.iload_n 1, 1) := by decide +kernel
theorem dX6_isCall_1 : decode cX6_isCall 1 = .ok (.iconst 0, 1) := by decide +kernel
theorem dX6_isCall_2 : decode cX6_isCall 2 = .ok (.aload_n 0, 1) := by decide +kernel
theorem dX6_isCall_3 : decode cX6_isCall 3 = .ok (.getfield 78, 3) := by decide +kernel
theorem dX6_isCall_6 : decode cX6_isCall 6 = .ok (.iconst 1, 1) := by decide +kernel
theorem dX6_isCall_7 : decode cX6_isCall 7 = .ok (.isub, 1) := by decide +kernel
theorem dX6_isCall_8 : decode cX6_isCall 8 = .ok (.invokestatic 74, 3) := by decide +kernel
theorem dX6_isCall_11 : decode cX6_isCall 11 = .ok (.ireturn, 1) := by decide +kernel
theorem dX6_isEvent_0 : decode cX6_isEvent 0 = .ok (.iload_n 1, 1) := by decide +kernel
theorem dX6_isEvent_1 : decode cX6_isEvent 1 = .ok (.iconst 0, 1) := by decide +kernel
theorem dX6_isEvent_2 : decode cX6_isEvent 2 = .ok (.aload_n 0, 1) := by decide +kernel
theorem dX6_isEvent_3 : decode cX6_isEvent 3 = .ok (.getfield 81, 3) := by decide +kernel
theorem dX6_isEvent_6 : decode cX6_isEvent 6 = .ok (.iconst 1, 1) := by decide +kernel
theorem dX6_isEvent_7 : decode cX6_isEvent 7 = .ok (.isub, 1) := by decide +kernel
theorem dX6_isEvent_8 : decode cX6_isEvent 8 = .ok (.invokestatic 74, 3) := by decide +kernel
theorem dX6_isEvent_11 : decode cX6_isEvent 11 = .ok (.ireturn, 1) := by decide +kernel
theorem dX6_isPoint_0 : decode cX6_isPoint 0 = .ok (.iload_n 0, 1) := by decide +kernel
theorem dX6_isPoint_1 : decode cX6_isPoint 1 = .ok (.iconst 0, 1) := by decide +kernel
theorem dX6_isPoint_2 : decode cX6_isPoint 2 = .ok (.ldc 84, 2) := by decide +kernel
theorem dX6_isPoint_4 : decode cX6_isPoint 4 = .ok (.invokestatic 74, 3) := by decide +kernel
theorem dX6_isPoint_7 : decode cX6_isPoint 7 = .ok (.ireturn, 1) := by decide +kernel
theorem dX6_rule_0 : decode cX6_rule 0 = .ok (.iload_n 2, 1) := by decide +kernel
theorem dX6_rule_1 : decode cX6_rule 1 = .ok (.iconst 0, 1) := by decide +kernel
theorem dX6_rule_2 : decode cX6_rule 2 = .ok (.sipush 20000, 3) := by decide +kernel
theorem dX6_rule_5 : decode cX6_rule 5 = .ok (.invokestatic 74, 3) := by decide +kernel
theorem dX6_rule_8 : decode cX6_rule 8 = .ok (.ifCond .eq 35, 3) := by decide +kernel
theorem dX6_rule_11 : decode cX6_rule 11 = .ok (.iload_n 3, 1) := by decide +kernel
theorem dX6_rule_12 : decode cX6_rule 12 = .ok (.iconst 0, 1) := by decide +kernel
theorem dX6_rule_13 : decode cX6_rule 13 = .ok (.ldc 85, 2) := by decide +kernel
theorem dX6_rule_15 : decode cX6_rule 15 = .ok (.invokestatic 74, 3) := by decide +kernel
theorem dX6_rule_18 : decode cX6_rule 18 = .ok (.ifCond .eq 25, 3) := by decide +kernel
theorem dX6_rule_21 : decode cX6_rule 21 = .ok (.iload 4, 2) := by decide +kernel
theorem dX6_rule_23 : decode cX6_rule 23 = .ok (.iconst 0, 1) := by decide +kernel
theorem dX6_rule_24 : decode cX6_rule 24 = .ok (.bipush 100, 2) := by decide +kernel
theorem dX6_rule_26 : decode cX6_rule 26 = .ok (.invokestatic 74, 3) := by decide +kernel
theorem dX6_rule_29 : decode cX6_rule 29 = .ok (.ifCond .eq 14, 3) := by decide +kernel
theorem dX6_rule_32 : decode cX6_rule 32 = .ok (.iload 5, 2) := by decide +kernel
theorem dX6_rule_34 : decode cX6_rule 34 = .ok (.iconst 1, 1) := by decide +kernel
theorem dX6_rule_35 : decode cX6_rule 35 = .ok (.bipush 100, 2) := by decide +kernel
theorem dX6_rule_37 : decode cX6_rule 37 = .ok (.invokestatic 74, 3) := by decide +kernel
theorem dX6_rule_40 : decode cX6_rule 40 = .ok (.ifCond .ne 7, 3) := by decide +kernel
theorem dX6_rule_43 : decode cX6_rule 43 = .ok (.iconst 1, 1) := by decide +kernel
theorem dX6_rule_44 : decode cX6_rule 44 = .ok (.goto 4, 3) := by decide +kernel
theorem dX6_rule_47 : decode cX6_rule 47 = .ok (.iconst 0, 1) := by decide +kernel
theorem dX6_rule_48 : decode cX6_rule 48 = .ok (.istore 6, 2) := by decide +kernel
theorem dX6_rule_50 : decode cX6_rule 50 = .ok (.aload_n 0, 1) := by decide +kernel
theorem dX6_rule_51 : decode cX6_rule 51 = .ok (.iload_n 1, 1) := by decide +kernel
theorem dX6_rule_52 : decode cX6_rule 52 = .ok (.invokestatic 86, 3) := by decide +kernel
theorem dX6_rule_55 : decode cX6_rule 55 = .ok (.ifCond .ne 7, 3) := by decide +kernel
theorem dX6_rule_58 : decode cX6_rule 58 = .ok (.iconst 1, 1) := by decide +kernel
theorem dX6_rule_59 : decode cX6_rule 59 = .ok (.goto 4, 3) := by decide +kernel
theorem dX6_rule_62 : decode cX6_rule 62 = .ok (.iconst 0, 1) := by decide +kernel
theorem dX6_rule_63 : decode cX6_rule 63 = .ok (.iload 6, 2) := by decide +kernel
theorem dX6_rule_65 : decode cX6_rule 65 = .ok (.iconst 0, 1) := by decide +kernel
theorem dX6_rule_66 : decode cX6_rule 66 = .ok (.invokevirtual 90, 3) := by decide +kernel
theorem dX6_rule_69 : decode cX6_rule 69 = .ok (.ifCond .eq 4, 3) := by decide +kernel
theorem dX6_rule_72 : decode cX6_rule 72 = .ok (.return_, 1) := by decide +kernel
theorem dX6_rule_73 : decode cX6_rule 73 = .ok (.aload_n 0, 1) := by decide +kernel
theorem dX6_rule_74 : decode cX6_rule 74 = .ok (.getfield 7, 3) := by decide +kernel
theorem dX6_rule_77 : decode cX6_rule 77 = .ok (.iload_n 1, 1) := by decide +kernel
theorem dX6_rule_78 : decode cX6_rule 78 = .ok (.iload_n 2, 1) := by decide +kernel
theorem dX6_rule_79 : decode cX6_rule 79 = .ok (.iastore, 1) := by decide +kernel
theorem dX6_rule_80 : decode cX6_rule 80 = .ok (.aload_n 0, 1) := by decide +kernel
theorem dX6_rule_81 : decode cX6_rule 81 = .ok (.getfield 13, 3) := by decide +kernel
theorem dX6_rule_84 : decode cX6_rule 84 = .ok (.iload_n 1, 1) := by decide +kernel
theorem dX6_rule_85 : decode cX6_rule 85 = .ok (.iload_n 3, 1) := by decide +kernel
theorem dX6_rule_86 : decode cX6_rule 86 = .ok (.iastore, 1) := by decide +kernel
theorem dX6_rule_87 : decode cX6_rule 87 = .ok (.aload_n 0, 1) := by decide +kernel
theorem dX6_rule_88 : decode cX6_rule 88 = .ok (.getfield 16, 3) := by decide +kernel
theorem dX6_rule_91 : decode cX6_rule 91 = .ok (.iload_n 1, 1) := by decide +kernel
theorem dX6_rule_92 : decode cX6_rule 92 = .ok (.iload 4, 2) := by decide +kernel
theorem dX6_rule_94 : decode cX6_rule 94 = .ok (.iastore, 1) := by decide +kernel
theorem dX6_rule_95 : decode cX6_rule 95 = .ok (.aload_n 0, 1) := by decide +kernel
theorem dX6_rule_96 : decode cX6_rule 96 = .ok (.getfield 19, 3) := by decide +kernel
theorem dX6_rule_99 : decode cX6_rule 99 = .ok (.iload_n 1, 1) := by decide +kernel
theorem dX6_rule_100 : decode cX6_rule 100 = .ok (.iload 5, 2) := by decide +kernel
theorem dX6_rule_102 : decode cX6_rule 102 = .ok (.iastore, 1) := by decide +kernel
theorem dX6_rule_103 : decode cX6_rule 103 = .ok (.return_, 1) := by decide +kernel
theorem dX6_weight_0 : decode cX6_weight 0 = .ok (.aload_n 0, 1) := by decide +kernel
theorem dX6_weight_1 : decode cX6_weight 1 = .ok (.iload_n 1, 1) := by decide +kernel
theorem dX6_weight_2 : decode cX6_weight 2 = .ok (.invokestatic 86, 3) := by decide +kernel
theorem dX6_weight_5 : decode cX6_weight 5 = .ok (.ifCond .eq 13, 3) := by decide +kernel
theorem dX6_weight_8 : decode cX6_weight 8 = .ok (.iload_n 2, 1) := by decide +kernel
theorem dX6_weight_9 : decode cX6_weight 9 = .ok (.iconst 0, 1) := by decide +kernel
theorem dX6_weight_10 : decode cX6_weight 10 = .ok (.bipush 31, 2) := by decide +kernel
theorem dX6_weight_12 : decode cX6_weight 12 = .ok (.invokestatic 74, 3) := by decide +kernel
theorem dX6_weight_15 : decode cX6_weight 15 = .ok (.ifCond .ne 7, 3) := by decide +kernel
theorem dX6_weight_18 : decode cX6_weight 18 = .ok (.iconst 1, 1) := by decide +kernel
theorem dX6_weight_19 : decode cX6_weight 19 = .ok (.goto 4, 3) := by decide +kernel
theorem dX6_weight_22 : decode cX6_weight 22 = .ok (.iconst 0, 1) := by decide +kernel
theorem dX6_weight_23 : decode cX6_weight 23 = .ok (.iload_n 3, 1) := by decide +kernel
theorem dX6_weight_24 : decode cX6_weight 24 = .ok (.iconst 0, 1) := by decide +kernel
theorem dX6_weight_25 : decode cX6_weight 25 = .ok (.bipush 100, 2) := by decide +kernel
theorem dX6_weight_27 : decode cX6_weight 27 = .ok (.invokestatic 74, 3) := by decide +kernel
theorem dX6_weight_30 : decode cX6_weight 30 = .ok (.ifCond .ne 7, 3) := by decide +kernel
theorem dX6_weight_33 : decode cX6_weight 33 = .ok (.iconst 1, 1) := by decide +kernel
theorem dX6_weight_34 : decode cX6_weight 34 = .ok (.goto 4, 3) := by decide +kernel
theorem dX6_weight_37 : decode cX6_weight 37 = .ok (.iconst 0, 1) := by decide +kernel
theorem dX6_weight_38 : decode cX6_weight 38 = .ok (.iconst 0, 1) := by decide +kernel
theorem dX6_weight_39 : decode cX6_weight 39 = .ok (.invokevirtual 90, 3) := by decide +kernel
theorem dX6_weight_42 : decode cX6_weight 42 = .ok (.ifCond .eq 4, 3) := by decide +kernel
theorem dX6_weight_45 : decode cX6_weight 45 = .ok (.return_, 1) := by decide +kernel
theorem dX6_weight_46 : decode cX6_weight 46 = .ok (.aload_n 0, 1) := by decide +kernel
theorem dX6_weight_47 : decode cX6_weight 47 = .ok (.getfield 22, 3) := by decide +kernel
theorem dX6_weight_50 : decode cX6_weight 50 = .ok (.bipush 32, 2) := by decide +kernel
theorem dX6_weight_52 : decode cX6_weight 52 = .ok (.iload_n 1, 1) := by decide +kernel
theorem dX6_weight_53 : decode cX6_weight 53 = .ok (.imul, 1) := by decide +kernel
theorem dX6_weight_54 : decode cX6_weight 54 = .ok (.iload_n 2, 1) := by decide +kernel
theorem dX6_weight_55 : decode cX6_weight 55 = .ok (.iadd, 1) := by decide +kernel
theorem dX6_weight_56 : decode cX6_weight 56 = .ok (.iload_n 3, 1) := by decide +kernel
theorem dX6_weight_57 : decode cX6_weight 57 = .ok (.iastore, 1) := by decide +kernel
theorem dX6_weight_58 : decode cX6_weight 58 = .ok (.return_, 1) := by decide +kernel
theorem dX6_point_0 : decode cX6_point 0 = .ok (.aload_n 0, 1) := by decide +kernel
theorem dX6_point_1 : decode cX6_point 1 = .ok (.iload_n 1, 1) := by decide +kernel
theorem dX6_point_2 : decode cX6_point 2 = .ok (.invokestatic 94, 3) := by decide +kernel
theorem dX6_point_5 : decode cX6_point 5 = .ok (.ifCond .ne 7, 3) := by decide +kernel
theorem dX6_point_8 : decode cX6_point 8 = .ok (.iconst 1, 1) := by decide +kernel
theorem dX6_point_9 : decode cX6_point 9 = .ok (.goto 4, 3) := by decide +kernel
theorem dX6_point_12 : decode cX6_point 12 = .ok (.iconst 0, 1) := by decide +kernel
theorem dX6_point_13 : decode cX6_point 13 = .ok (.iload_n 2, 1) := by decide +kernel
theorem dX6_point_14 : decode cX6_point 14 = .ok (.invokestatic 97, 3) := by decide +kernel
theorem dX6_point_17 : decode cX6_point 17 = .ok (.ifCond .ne 7, 3) := by decide +kernel
theorem dX6_point_20 : decode cX6_point 20 = .ok (.iconst 1, 1) := by decide +kernel
theorem dX6_point_21 : decode cX6_point 21 = .ok (.goto 4, 3) := by decide +kernel
theorem dX6_point_24 : decode cX6_point 24 = .ok (.iconst 0, 1) := by decide +kernel
theorem dX6_point_25 : decode cX6_point 25 = .ok (.iload_n 1, 1) := by decide +kernel
theorem dX6_point_26 : decode cX6_point 26 = .ok (.invokestatic 94, 3) := by decide +kernel
theorem dX6_point_29 : decode cX6_point 29 = .ok (.ifCond .eq 29, 3) := by decide +kernel
theorem dX6_point_32 : decode cX6_point 32 = .ok (.aload_n 0, 1) := by decide +kernel
theorem dX6_point_33 : decode cX6_point 33 = .ok (.getfield 25, 3) := by decide +kernel
theorem dX6_point_36 : decode cX6_point 36 = .ok (.iload_n 1, 1) := by decide +kernel
theorem dX6_point_37 : decode cX6_point 37 = .ok (.invokestatic 94, 3) := by decide +kernel
theorem dX6_point_40 : decode cX6_point 40 = .ok (.ifCond .eq 7, 3) := by decide +kernel
theorem dX6_point_43 : decode cX6_point 43 = .ok (.iload_n 1, 1) := by decide +kernel
theorem dX6_point_44 : decode cX6_point 44 = .ok (.goto 4, 3) := by decide +kernel
theorem dX6_point_47 : decode cX6_point 47 = .ok (.iconst 0, 1) := by decide +kernel
theorem dX6_point_48 : decode cX6_point 48 = .ok (.iaload, 1) := by decide +kernel
theorem dX6_point_49 : decode cX6_point 49 = .ok (.bipush 8, 2) := by decide +kernel
theorem dX6_point_51 : decode cX6_point 51 = .ok (.if_icmp .ne 7, 3) := by decide +kernel
theorem dX6_point_54 : decode cX6_point 54 = .ok (.iconst 1, 1) := by decide +kernel
theorem dX6_point_55 : decode cX6_point 55 = .ok (.goto 4, 3) := by decide +kernel
theorem dX6_point_58 : decode cX6_point 58 = .ok (.iconst 0, 1) := by decide +kernel
theorem dX6_point_59 : decode cX6_point 59 = .ok (.invokevirtual 90, 3) := by decide +kernel
theorem dX6_point_62 : decode cX6_point 62 = .ok (.ifCond .eq 5, 3) := by decide +kernel
theorem dX6_point_65 : decode cX6_point 65 = .ok (.iconst 0, 1) := by decide +kernel
theorem dX6_point_66 : decode cX6_point 66 = .ok (.ireturn, 1) := by decide +kernel
theorem dX6_point_67 : decode cX6_point 67 = .ok (.aload_n 0, 1) := by decide +kernel
theorem dX6_point_68 : decode cX6_point 68 = .ok (.getfield 28, 3) := by decide +kernel
theorem dX6_point_71 : decode cX6_point 71 = .ok (.bipush 8, 2) := by decide +kernel
theorem dX6_point_73 : decode cX6_point 73 = .ok (.iload_n 1, 1) := by decide +kernel
theorem dX6_point_74 : decode cX6_point 74 = .ok (.imul, 1) := by decide +kernel
theorem dX6_point_75 : decode cX6_point 75 = .ok (.aload_n 0, 1) := by decide +kernel
theorem dX6_point_76 : decode cX6_point 76 = .ok (.getfield 25, 3) := by decide +kernel
theorem dX6_point_79 : decode cX6_point 79 = .ok (.iload_n 1, 1) := by decide +kernel
theorem dX6_point_80 : decode cX6_point 80 = .ok (.iaload, 1) := by decide +kernel
theorem dX6_point_81 : decode cX6_point 81 = .ok (.iadd, 1) := by decide +kernel
theorem dX6_point_82 : decode cX6_point 82 = .ok (.iload_n 2, 1) := by decide +kernel
theorem dX6_point_83 : decode cX6_point 83 = .ok (.iastore, 1) := by decide +kernel
theorem dX6_point_84 : decode cX6_point 84 = .ok (.aload_n 0, 1) := by decide +kernel
theorem dX6_point_85 : decode cX6_point 85 = .ok (.getfield 25, 3) := by decide +kernel
theorem dX6_point_88 : decode cX6_point 88 = .ok (.iload_n 1, 1) := by decide +kernel
theorem dX6_point_89 : decode cX6_point 89 = .ok (.dup2, 1) := by decide +kernel
theorem dX6_point_90 : decode cX6_point 90 = .ok (.iaload, 1) := by decide +kernel
theorem dX6_point_91 : decode cX6_point 91 = .ok (.iconst 1, 1) := by decide +kernel
theorem dX6_point_92 : decode cX6_point 92 = .ok (.iadd, 1) := by decide +kernel
theorem dX6_point_93 : decode cX6_point 93 = .ok (.iastore, 1) := by decide +kernel
theorem dX6_point_94 : decode cX6_point 94 = .ok (.aload_n 0, 1) := by decide +kernel
theorem dX6_point_95 : decode cX6_point 95 = .ok (.getfield 25, 3) := by decide +kernel
theorem dX6_point_98 : decode cX6_point 98 = .ok (.iload_n 1, 1) := by decide +kernel
theorem dX6_point_99 : decode cX6_point 99 = .ok (.iaload, 1) := by decide +kernel
theorem dX6_point_100 : decode cX6_point 100 = .ok (.ireturn, 1) := by decide +kernel
theorem dX6_squareOf_0 : decode cX6_squareOf 0 = .ok (.iload_n 0, 1) := by decide +kernel
theorem dX6_squareOf_1 : decode cX6_squareOf 1 = .ok (.sipush 10000, 3) := by decide +kernel
theorem dX6_squareOf_4 : decode cX6_squareOf 4 = .ok (.idiv, 1) := by decide +kernel
theorem dX6_squareOf_5 : decode cX6_squareOf 5 = .ok (.iload_n 1, 1) := by decide +kernel
theorem dX6_squareOf_6 : decode cX6_squareOf 6 = .ok (.sipush 10000, 3) := by decide +kernel
theorem dX6_squareOf_9 : decode cX6_squareOf 9 = .ok (.idiv, 1) := by decide +kernel
theorem dX6_squareOf_10 : decode cX6_squareOf 10 = .ok (.isub, 1) := by decide +kernel
theorem dX6_squareOf_11 : decode cX6_squareOf 11 = .ok (.i2l, 1) := by decide +kernel
theorem dX6_squareOf_12 : decode cX6_squareOf 12 = .ok (.lstore_n 2, 1) := by decide +kernel
theorem dX6_squareOf_13 : decode cX6_squareOf 13 = .ok (.iload_n 0, 1) := by decide +kernel
theorem dX6_squareOf_14 : decode cX6_squareOf 14 = .ok (.sipush 10000, 3) := by decide +kernel
theorem dX6_squareOf_17 : decode cX6_squareOf 17 = .ok (.irem, 1) := by decide +kernel
theorem dX6_squareOf_18 : decode cX6_squareOf 18 = .ok (.iload_n 1, 1) := by decide +kernel
theorem dX6_squareOf_19 : decode cX6_squareOf 19 = .ok (.sipush 10000, 3) := by decide +kernel
theorem dX6_squareOf_22 : decode cX6_squareOf 22 = .ok (.irem, 1) := by decide +kernel
theorem dX6_squareOf_23 : decode cX6_squareOf 23 = .ok (.isub, 1) := by decide +kernel
theorem dX6_squareOf_24 : decode cX6_squareOf 24 = .ok (.i2l, 1) := by decide +kernel
theorem dX6_squareOf_25 : decode cX6_squareOf 25 = .ok (.lstore 4, 2) := by decide +kernel
end
section
theorem dX6_squareOf_27 : decode cX6_squareOf 27 = .ok (.lload_n 2, 1) := by decide +kernel
theorem dX6_squareOf_28 : decode cX6_squareOf 28 = .ok (.lload_n 2, 1) := by decide +kernel
theorem dX6_squareOf_29 : decode cX6_squareOf 29 = .ok (.lmul, 1) := by decide +kernel
theorem dX6_squareOf_30 : decode cX6_squareOf 30 = .ok (.lload 4, 2) := by decide +kernel
theorem dX6_squareOf_32 : decode cX6_squareOf 32 = .ok (.lload 4, 2) := by decide +kernel
theorem dX6_squareOf_34 : decode cX6_squareOf 34 = .ok (.lmul, 1) := by decide +kernel
theorem dX6_squareOf_35 : decode cX6_squareOf 35 = .ok (.ladd, 1) := by decide +kernel
theorem dX6_squareOf_36 : decode cX6_squareOf 36 = .ok (.lreturn, 1) := by decide +kernel
theorem dX6_sum_0 : decode cX6_sum 0 = .ok (.iconst 0, 1) := by decide +kernel
theorem dX6_sum_1 : decode cX6_sum 1 = .ok (.istore_n 3, 1) := by decide +kernel
theorem dX6_sum_2 : decode cX6_sum 2 = .ok (.iconst 0, 1) := by decide +kernel
theorem dX6_sum_3 : decode cX6_sum 3 = .ok (.istore 4, 2) := by decide +kernel
theorem dX6_sum_5 : decode cX6_sum 5 = .ok (.iload 4, 2) := by decide +kernel
theorem dX6_sum_7 : decode cX6_sum 7 = .ok (.bipush 32, 2) := by decide +kernel
theorem dX6_sum_9 : decode cX6_sum 9 = .ok (.if_icmp .ge 38, 3) := by decide +kernel
theorem dX6_sum_12 : decode cX6_sum 12 = .ok (.iload_n 3, 1) := by decide +kernel
theorem dX6_sum_13 : decode cX6_sum 13 = .ok (.iload_n 1, 1) := by decide +kernel
theorem dX6_sum_14 : decode cX6_sum 14 = .ok (.iload 4, 2) := by decide +kernel
theorem dX6_sum_16 : decode cX6_sum 16 = .ok (.ishr, 1) := by decide +kernel
theorem dX6_sum_17 : decode cX6_sum 17 = .ok (.iconst 1, 1) := by decide +kernel
theorem dX6_sum_18 : decode cX6_sum 18 = .ok (.iand, 1) := by decide +kernel
theorem dX6_sum_19 : decode cX6_sum 19 = .ok (.iconst 1, 1) := by decide +kernel
theorem dX6_sum_20 : decode cX6_sum 20 = .ok (.if_icmp .ne 18, 3) := by decide +kernel
theorem dX6_sum_23 : decode cX6_sum 23 = .ok (.aload_n 0, 1) := by decide +kernel
theorem dX6_sum_24 : decode cX6_sum 24 = .ok (.getfield 22, 3) := by decide +kernel
theorem dX6_sum_27 : decode cX6_sum 27 = .ok (.bipush 32, 2) := by decide +kernel
theorem dX6_sum_29 : decode cX6_sum 29 = .ok (.iload_n 2, 1) := by decide +kernel
theorem dX6_sum_30 : decode cX6_sum 30 = .ok (.imul, 1) := by decide +kernel
theorem dX6_sum_31 : decode cX6_sum 31 = .ok (.iload 4, 2) := by decide +kernel
theorem dX6_sum_33 : decode cX6_sum 33 = .ok (.iadd, 1) := by decide +kernel
theorem dX6_sum_34 : decode cX6_sum 34 = .ok (.iaload, 1) := by decide +kernel
theorem dX6_sum_35 : decode cX6_sum 35 = .ok (.goto 4, 3) := by decide +kernel
theorem dX6_sum_38 : decode cX6_sum 38 = .ok (.iconst 0, 1) := by decide +kernel
theorem dX6_sum_39 : decode cX6_sum 39 = .ok (.iadd, 1) := by decide +kernel
theorem dX6_sum_40 : decode cX6_sum 40 = .ok (.istore_n 3, 1) := by decide +kernel
theorem dX6_sum_41 : decode cX6_sum 41 = .ok (.iinc 4 1, 3) := by decide +kernel
theorem dX6_sum_44 : decode cX6_sum 44 = .ok (.goto (-39), 3) := by decide +kernel
theorem dX6_sum_47 : decode cX6_sum 47 = .ok (.iload_n 3, 1) := by decide +kernel
theorem dX6_sum_48 : decode cX6_sum 48 = .ok (.ireturn, 1) := by decide +kernel
theorem dX6_isEnough_0 : decode cX6_isEnough 0 = .ok (.aload_n 0, 1) := by decide +kernel
theorem dX6_isEnough_1 : decode cX6_isEnough 1 = .ok (.iload_n 1, 1) := by decide +kernel
theorem dX6_isEnough_2 : decode cX6_isEnough 2 = .ok (.iload_n 2, 1) := by decide +kernel
theorem dX6_isEnough_3 : decode cX6_isEnough 3 = .ok (.iand, 1) := by decide +kernel
theorem dX6_isEnough_4 : decode cX6_isEnough 4 = .ok (.iload_n 3, 1) := by decide +kernel
theorem dX6_isEnough_5 : decode cX6_isEnough 5 = .ok (.invokevirtual 100, 3) := by decide +kernel
theorem dX6_isEnough_8 : decode cX6_isEnough 8 = .ok (.aload_n 0, 1) := by decide +kernel
theorem dX6_isEnough_9 : decode cX6_isEnough 9 = .ok (.getfield 19, 3) := by decide +kernel
theorem dX6_isEnough_12 : decode cX6_isEnough 12 = .ok (.iload_n 3, 1) := by decide +kernel
theorem dX6_isEnough_13 : decode cX6_isEnough 13 = .ok (.iaload, 1) := by decide +kernel
theorem dX6_isEnough_14 : decode cX6_isEnough 14 = .ok (.imul, 1) := by decide +kernel
theorem dX6_isEnough_15 : decode cX6_isEnough 15 = .ok (.aload_n 0, 1) := by decide +kernel
theorem dX6_isEnough_16 : decode cX6_isEnough 16 = .ok (.getfield 16, 3) := by decide +kernel
theorem dX6_isEnough_19 : decode cX6_isEnough 19 = .ok (.iload_n 3, 1) := by decide +kernel
theorem dX6_isEnough_20 : decode cX6_isEnough 20 = .ok (.iaload, 1) := by decide +kernel
theorem dX6_isEnough_21 : decode cX6_isEnough 21 = .ok (.aload_n 0, 1) := by decide +kernel
theorem dX6_isEnough_22 : decode cX6_isEnough 22 = .ok (.iload_n 1, 1) := by decide +kernel
theorem dX6_isEnough_23 : decode cX6_isEnough 23 = .ok (.iload_n 2, 1) := by decide +kernel
theorem dX6_isEnough_24 : decode cX6_isEnough 24 = .ok (.ior, 1) := by decide +kernel
theorem dX6_isEnough_25 : decode cX6_isEnough 25 = .ok (.iload_n 3, 1) := by decide +kernel
theorem dX6_isEnough_26 : decode cX6_isEnough 26 = .ok (.invokevirtual 100, 3) := by decide +kernel
theorem dX6_isEnough_29 : decode cX6_isEnough 29 = .ok (.imul, 1) := by decide +kernel
theorem dX6_isEnough_30 : decode cX6_isEnough 30 = .ok (.if_icmp .lt 7, 3) := by decide +kernel
theorem dX6_isEnough_33 : decode cX6_isEnough 33 = .ok (.iconst 1, 1) := by decide +kernel
theorem dX6_isEnough_34 : decode cX6_isEnough 34 = .ok (.goto 4, 3) := by decide +kernel
theorem dX6_isEnough_37 : decode cX6_isEnough 37 = .ok (.iconst 0, 1) := by decide +kernel
theorem dX6_isEnough_38 : decode cX6_isEnough 38 = .ok (.ireturn, 1) := by decide +kernel
theorem dX6_meets_0 : decode cX6_meets 0 = .ok (.iload 5, 2) := by decide +kernel
theorem dX6_meets_2 : decode cX6_meets 2 = .ok (.i2l, 1) := by decide +kernel
theorem dX6_meets_3 : decode cX6_meets 3 = .ok (.aload_n 0, 1) := by decide +kernel
theorem dX6_meets_4 : decode cX6_meets 4 = .ok (.getfield 43, 3) := by decide +kernel
theorem dX6_meets_7 : decode cX6_meets 7 = .ok (.iload_n 1, 1) := by decide +kernel
theorem dX6_meets_8 : decode cX6_meets 8 = .ok (.iaload, 1) := by decide +kernel
theorem dX6_meets_9 : decode cX6_meets 9 = .ok (.i2l, 1) := by decide +kernel
theorem dX6_meets_10 : decode cX6_meets 10 = .ok (.lsub, 1) := by decide +kernel
theorem dX6_meets_11 : decode cX6_meets 11 = .ok (.aload_n 0, 1) := by decide +kernel
theorem dX6_meets_12 : decode cX6_meets 12 = .ok (.getfield 13, 3) := by decide +kernel
theorem dX6_meets_15 : decode cX6_meets 15 = .ok (.iload_n 2, 1) := by decide +kernel
theorem dX6_meets_16 : decode cX6_meets 16 = .ok (.iaload, 1) := by decide +kernel
theorem dX6_meets_17 : decode cX6_meets 17 = .ok (.i2l, 1) := by decide +kernel
theorem dX6_meets_18 : decode cX6_meets 18 = .ok (.lcmp, 1) := by decide +kernel
theorem dX6_meets_19 : decode cX6_meets 19 = .ok (.ifCond .le 5, 3) := by decide +kernel
theorem dX6_meets_22 : decode cX6_meets 22 = .ok (.iconst 0, 1) := by decide +kernel
theorem dX6_meets_23 : decode cX6_meets 23 = .ok (.ireturn, 1) := by decide +kernel
theorem dX6_meets_24 : decode cX6_meets 24 = .ok (.aload_n 0, 1) := by decide +kernel
theorem dX6_meets_25 : decode cX6_meets 25 = .ok (.aload_n 0, 1) := by decide +kernel
theorem dX6_meets_26 : decode cX6_meets 26 = .ok (.getfield 40, 3) := by decide +kernel
theorem dX6_meets_29 : decode cX6_meets 29 = .ok (.iload_n 1, 1) := by decide +kernel
theorem dX6_meets_30 : decode cX6_meets 30 = .ok (.iaload, 1) := by decide +kernel
theorem dX6_meets_31 : decode cX6_meets 31 = .ok (.iload 4, 2) := by decide +kernel
theorem dX6_meets_33 : decode cX6_meets 33 = .ok (.ior, 1) := by decide +kernel
theorem dX6_meets_34 : decode cX6_meets 34 = .ok (.iload_n 2, 1) := by decide +kernel
theorem dX6_meets_35 : decode cX6_meets 35 = .ok (.invokevirtual 100, 3) := by decide +kernel
theorem dX6_meets_38 : decode cX6_meets 38 = .ok (.ifCond .le 7, 3) := by decide +kernel
theorem dX6_meets_41 : decode cX6_meets 41 = .ok (.iconst 1, 1) := by decide +kernel
theorem dX6_meets_42 : decode cX6_meets 42 = .ok (.goto 4, 3) := by decide +kernel
theorem dX6_meets_45 : decode cX6_meets 45 = .ok (.iconst 0, 1) := by decide +kernel
theorem dX6_meets_46 : decode cX6_meets 46 = .ok (.istore 6, 2) := by decide +kernel
theorem dX6_meets_48 : decode cX6_meets 48 = .ok (.aload_n 0, 1) := by decide +kernel
theorem dX6_meets_49 : decode cX6_meets 49 = .ok (.getfield 37, 3) := by decide +kernel
theorem dX6_meets_52 : decode cX6_meets 52 = .ok (.iload_n 1, 1) := by decide +kernel
theorem dX6_meets_53 : decode cX6_meets 53 = .ok (.iaload, 1) := by decide +kernel
theorem dX6_meets_54 : decode cX6_meets 54 = .ok (.ifCond .lt 103, 3) := by decide +kernel
theorem dX6_meets_57 : decode cX6_meets 57 = .ok (.iload_n 3, 1) := by decide +kernel
theorem dX6_meets_58 : decode cX6_meets 58 = .ok (.ifCond .lt 99, 3) := by decide +kernel
theorem dX6_meets_61 : decode cX6_meets 61 = .ok (.aload_n 0, 1) := by decide +kernel
theorem dX6_meets_62 : decode cX6_meets 62 = .ok (.getfield 37, 3) := by decide +kernel
theorem dX6_meets_65 : decode cX6_meets 65 = .ok (.iload_n 1, 1) := by decide +kernel
theorem dX6_meets_66 : decode cX6_meets 66 = .ok (.iaload, 1) := by decide +kernel
theorem dX6_meets_67 : decode cX6_meets 67 = .ok (.iload_n 3, 1) := by decide +kernel
theorem dX6_meets_68 : decode cX6_meets 68 = .ok (.invokestatic 104, 3) := by decide +kernel
theorem dX6_meets_71 : decode cX6_meets 71 = .ok (.lstore 7, 2) := by decide +kernel
theorem dX6_meets_73 : decode cX6_meets 73 = .ok (.aload_n 0, 1) := by decide +kernel
theorem dX6_meets_74 : decode cX6_meets 74 = .ok (.getfield 7, 3) := by decide +kernel
theorem dX6_meets_77 : decode cX6_meets 77 = .ok (.iload_n 2, 1) := by decide +kernel
theorem dX6_meets_78 : decode cX6_meets 78 = .ok (.iaload, 1) := by decide +kernel
theorem dX6_meets_79 : decode cX6_meets 79 = .ok (.i2l, 1) := by decide +kernel
theorem dX6_meets_80 : decode cX6_meets 80 = .ok (.aload_n 0, 1) := by decide +kernel
theorem dX6_meets_81 : decode cX6_meets 81 = .ok (.getfield 7, 3) := by decide +kernel
theorem dX6_meets_84 : decode cX6_meets 84 = .ok (.iload_n 2, 1) := by decide +kernel
theorem dX6_meets_85 : decode cX6_meets 85 = .ok (.iaload, 1) := by decide +kernel
theorem dX6_meets_86 : decode cX6_meets 86 = .ok (.i2l, 1) := by decide +kernel
theorem dX6_meets_87 : decode cX6_meets 87 = .ok (.lmul, 1) := by decide +kernel
theorem dX6_meets_88 : decode cX6_meets 88 = .ok (.lstore 9, 2) := by decide +kernel
theorem dX6_meets_90 : decode cX6_meets 90 = .ok (.iload 6, 2) := by decide +kernel
theorem dX6_meets_92 : decode cX6_meets 92 = .ok (.ifCond .eq 35, 3) := by decide +kernel
theorem dX6_meets_95 : decode cX6_meets 95 = .ok (.lload 7, 2) := by decide +kernel
theorem dX6_meets_97 : decode cX6_meets 97 = .ok (.lload 9, 2) := by decide +kernel
theorem dX6_meets_99 : decode cX6_meets 99 = .ok (.lcmp, 1) := by decide +kernel
theorem dX6_meets_100 : decode cX6_meets 100 = .ok (.ifCond .gt 23, 3) := by decide +kernel
theorem dX6_meets_103 : decode cX6_meets 103 = .ok (.aload_n 0, 1) := by decide +kernel
theorem dX6_meets_104 : decode cX6_meets 104 = .ok (.aload_n 0, 1) := by decide +kernel
theorem dX6_meets_105 : decode cX6_meets 105 = .ok (.getfield 40, 3) := by decide +kernel
theorem dX6_meets_108 : decode cX6_meets 108 = .ok (.iload_n 1, 1) := by decide +kernel
theorem dX6_meets_109 : decode cX6_meets 109 = .ok (.iaload, 1) := by decide +kernel
theorem dX6_meets_110 : decode cX6_meets 110 = .ok (.iload 4, 2) := by decide +kernel
theorem dX6_meets_112 : decode cX6_meets 112 = .ok (.iload_n 2, 1) := by decide +kernel
theorem dX6_meets_113 : decode cX6_meets 113 = .ok (.invokevirtual 108, 3) := by decide +kernel
theorem dX6_meets_116 : decode cX6_meets 116 = .ok (.ifCond .eq 7, 3) := by decide +kernel
theorem dX6_meets_119 : decode cX6_meets 119 = .ok (.iconst 1, 1) := by decide +kernel
theorem dX6_meets_120 : decode cX6_meets 120 = .ok (.goto 24, 3) := by decide +kernel
theorem dX6_meets_123 : decode cX6_meets 123 = .ok (.iconst 0, 1) := by decide +kernel
theorem dX6_meets_124 : decode cX6_meets 124 = .ok (.goto 20, 3) := by decide +kernel
theorem dX6_meets_127 : decode cX6_meets 127 = .ok (.ldc2_w 111, 3) := by decide +kernel
theorem dX6_meets_130 : decode cX6_meets 130 = .ok (.lload 7, 2) := by decide +kernel
theorem dX6_meets_132 : decode cX6_meets 132 = .ok (.lmul, 1) := by decide +kernel
theorem dX6_meets_133 : decode cX6_meets 133 = .ok (.lload 9, 2) := by decide +kernel
theorem dX6_meets_135 : decode cX6_meets 135 = .ok (.lcmp, 1) := by decide +kernel
theorem dX6_meets_136 : decode cX6_meets 136 = .ok (.ifCond .gt 7, 3) := by decide +kernel
theorem dX6_meets_139 : decode cX6_meets 139 = .ok (.iconst 1, 1) := by decide +kernel
theorem dX6_meets_140 : decode cX6_meets 140 = .ok (.goto 4, 3) := by decide +kernel
theorem dX6_meets_143 : decode cX6_meets 143 = .ok (.iconst 0, 1) := by decide +kernel
theorem dX6_meets_144 : decode cX6_meets 144 = .ok (.istore 11, 2) := by decide +kernel
theorem dX6_meets_146 : decode cX6_meets 146 = .ok (.iload 11, 2) := by decide +kernel
theorem dX6_meets_148 : decode cX6_meets 148 = .ok (.ifCond .eq 7, 3) := by decide +kernel
theorem dX6_meets_151 : decode cX6_meets 151 = .ok (.iconst 1, 1) := by decide +kernel
theorem dX6_meets_152 : decode cX6_meets 152 = .ok (.goto 4, 3) := by decide +kernel
theorem dX6_meets_155 : decode cX6_meets 155 = .ok (.iconst 0, 1) := by decide +kernel
theorem dX6_meets_156 : decode cX6_meets 156 = .ok (.ireturn, 1) := by decide +kernel
theorem dX6_meets_157 : decode cX6_meets 157 = .ok (.iload 6, 2) := by decide +kernel
theorem dX6_meets_159 : decode cX6_meets 159 = .ok (.ifCond .eq 23, 3) := by decide +kernel
theorem dX6_meets_162 : decode cX6_meets 162 = .ok (.aload_n 0, 1) := by decide +kernel
theorem dX6_meets_163 : decode cX6_meets 163 = .ok (.aload_n 0, 1) := by decide +kernel
theorem dX6_meets_164 : decode cX6_meets 164 = .ok (.getfield 40, 3) := by decide +kernel
theorem dX6_meets_167 : decode cX6_meets 167 = .ok (.iload_n 1, 1) := by decide +kernel
theorem dX6_meets_168 : decode cX6_meets 168 = .ok (.iaload, 1) := by decide +kernel
theorem dX6_meets_169 : decode cX6_meets 169 = .ok (.iload 4, 2) := by decide +kernel
theorem dX6_meets_171 : decode cX6_meets 171 = .ok (.iload_n 2, 1) := by decide +kernel
theorem dX6_meets_172 : decode cX6_meets 172 = .ok (.invokevirtual 108, 3) := by decide +kernel
theorem dX6_meets_175 : decode cX6_meets 175 = .ok (.ifCond .eq 7, 3) := by decide +kernel
theorem dX6_meets_178 : decode cX6_meets 178 = .ok (.iconst 2, 1) := by decide +kernel
theorem dX6_meets_179 : decode cX6_meets 179 = .ok (.goto 4, 3) := by decide +kernel
theorem dX6_meets_182 : decode cX6_meets 182 = .ok (.iconst 0, 1) := by decide +kernel
theorem dX6_meets_183 : decode cX6_meets 183 = .ok (.ireturn, 1) := by decide +kernel
theorem dX6_isOpen_0 : decode cX6_isOpen 0 = .ok (.aload_n 0, 1) := by decide +kernel
theorem dX6_isOpen_1 : decode cX6_isOpen 1 = .ok (.getfield 58, 3) := by decide +kernel
theorem dX6_isOpen_4 : decode cX6_isOpen 4 = .ok (.aload_n 0, 1) := by decide +kernel
theorem dX6_isOpen_5 : decode cX6_isOpen 5 = .ok (.getfield 46, 3) := by decide +kernel
theorem dX6_isOpen_8 : decode cX6_isOpen 8 = .ok (.iload_n 1, 1) := by decide +kernel
theorem dX6_isOpen_9 : decode cX6_isOpen 9 = .ok (.iaload, 1) := by decide +kernel
theorem dX6_isOpen_10 : decode cX6_isOpen 10 = .ok (.iaload, 1) := by decide +kernel
theorem dX6_isOpen_11 : decode cX6_isOpen 11 = .ok (.ifCond .ne 7, 3) := by decide +kernel
theorem dX6_isOpen_14 : decode cX6_isOpen 14 = .ok (.iconst 1, 1) := by decide +kernel
theorem dX6_isOpen_15 : decode cX6_isOpen 15 = .ok (.goto 4, 3) := by decide +kernel
theorem dX6_isOpen_18 : decode cX6_isOpen 18 = .ok (.iconst 0, 1) := by decide +kernel
theorem dX6_isOpen_19 : decode cX6_isOpen 19 = .ok (.ireturn, 1) := by decide +kernel
theorem dX6_isHoax_0 : decode cX6_isHoax 0 = .ok (.aload_n 0, 1) := by decide +kernel
theorem dX6_isHoax_1 : decode cX6_isHoax 1 = .ok (.getfield 52, 3) := by decide +kernel
theorem dX6_isHoax_4 : decode cX6_isHoax 4 = .ok (.iload_n 1, 1) := by decide +kernel
theorem dX6_isHoax_5 : decode cX6_isHoax 5 = .ok (.iaload, 1) := by decide +kernel
theorem dX6_isHoax_6 : decode cX6_isHoax 6 = .ok (.iconst 4, 1) := by decide +kernel
theorem dX6_isHoax_7 : decode cX6_isHoax 7 = .ok (.iand, 1) := by decide +kernel
theorem dX6_isHoax_8 : decode cX6_isHoax 8 = .ok (.ifCond .eq 7, 3) := by decide +kernel
theorem dX6_isHoax_11 : decode cX6_isHoax 11 = .ok (.iconst 1, 1) := by decide +kernel
theorem dX6_isHoax_12 : decode cX6_isHoax 12 = .ok (.goto 4, 3) := by decide +kernel
theorem dX6_isHoax_15 : decode cX6_isHoax 15 = .ok (.iconst 0, 1) := by decide +kernel
theorem dX6_isHoax_16 : decode cX6_isHoax 16 = .ok (.ireturn, 1) := by decide +kernel
theorem dX6_firstOf_0 : decode cX6_firstOf 0 = .ok (.iconst 0, 1) := by decide +kernel
theorem dX6_firstOf_1 : decode cX6_firstOf 1 = .ok (.istore_n 2, 1) := by decide +kernel
theorem dX6_firstOf_2 : decode cX6_firstOf 2 = .ok (.iload_n 2, 1) := by decide +kernel
theorem dX6_firstOf_3 : decode cX6_firstOf 3 = .ok (.aload_n 0, 1) := by decide +kernel
theorem dX6_firstOf_4 : decode cX6_firstOf 4 = .ok (.getfield 78, 3) := by decide +kernel
theorem dX6_firstOf_7 : decode cX6_firstOf 7 = .ok (.if_icmp .ge 30, 3) := by decide +kernel
theorem dX6_firstOf_10 : decode cX6_firstOf 10 = .ok (.aload_n 0, 1) := by decide +kernel
theorem dX6_firstOf_11 : decode cX6_firstOf 11 = .ok (.getfield 46, 3) := by decide +kernel
theorem dX6_firstOf_14 : decode cX6_firstOf 14 = .ok (.iload_n 2, 1) := by decide +kernel
theorem dX6_firstOf_15 : decode cX6_firstOf 15 = .ok (.iaload, 1) := by decide +kernel
theorem dX6_firstOf_16 : decode cX6_firstOf 16 = .ok (.iload_n 1, 1) := by decide +kernel
theorem dX6_firstOf_17 : decode cX6_firstOf 17 = .ok (.if_icmp .ne 14, 3) := by decide +kernel
theorem dX6_firstOf_20 : decode cX6_firstOf 20 = .ok (.aload_n 0, 1) := by decide +kernel
theorem dX6_firstOf_21 : decode cX6_firstOf 21 = .ok (.getfield 49, 3) := by decide +kernel
theorem dX6_firstOf_24 : decode cX6_firstOf 24 = .ok (.iload_n 2, 1) := by decide +kernel
theorem dX6_firstOf_25 : decode cX6_firstOf 25 = .ok (.iaload, 1) := by decide +kernel
theorem dX6_firstOf_26 : decode cX6_firstOf 26 = .ok (.ifCond .ge 5, 3) := by decide +kernel
theorem dX6_firstOf_29 : decode cX6_firstOf 29 = .ok (.iload_n 2, 1) := by decide +kernel
theorem dX6_firstOf_30 : decode cX6_firstOf 30 = .ok (.ireturn, 1) := by decide +kernel
theorem dX6_firstOf_31 : decode cX6_firstOf 31 = .ok (.iinc 2 1, 3) := by decide +kernel
theorem dX6_firstOf_34 : decode cX6_firstOf 34 = .ok (.goto (-32), 3) := by decide +kernel
theorem dX6_firstOf_37 : decode cX6_firstOf 37 = .ok (.iconst (-1), 1) := by decide +kernel
theorem dX6_firstOf_38 : decode cX6_firstOf 38 = .ok (.ireturn, 1) := by decide +kernel
theorem dX6_isBeside_0 : decode cX6_isBeside 0 = .ok (.iload_n 0, 1) := by decide +kernel
theorem dX6_isBeside_1 : decode cX6_isBeside 1 = .ok (.sipush 10000, 3) := by decide +kernel
theorem dX6_isBeside_4 : decode cX6_isBeside 4 = .ok (.idiv, 1) := by decide +kernel
theorem dX6_isBeside_5 : decode cX6_isBeside 5 = .ok (.iload_n 1, 1) := by decide +kernel
theorem dX6_isBeside_6 : decode cX6_isBeside 6 = .ok (.sipush 10000, 3) := by decide +kernel
theorem dX6_isBeside_9 : decode cX6_isBeside 9 = .ok (.idiv, 1) := by decide +kernel
theorem dX6_isBeside_10 : decode cX6_isBeside 10 = .ok (.isub, 1) := by decide +kernel
theorem dX6_isBeside_11 : decode cX6_isBeside 11 = .ok (.i2l, 1) := by decide +kernel
theorem dX6_isBeside_12 : decode cX6_isBeside 12 = .ok (.lstore_n 3, 1) := by decide +kernel
theorem dX6_isBeside_13 : decode cX6_isBeside 13 = .ok (.iload_n 0, 1) := by decide +kernel
theorem dX6_isBeside_14 : decode cX6_isBeside 14 = .ok (.sipush 10000, 3) := by decide +kernel
theorem dX6_isBeside_17 : decode cX6_isBeside 17 = .ok (.irem, 1) := by decide +kernel
theorem dX6_isBeside_18 : decode cX6_isBeside 18 = .ok (.iload_n 1, 1) := by decide +kernel
theorem dX6_isBeside_19 : decode cX6_isBeside 19 = .ok (.sipush 10000, 3) := by decide +kernel
theorem dX6_isBeside_22 : decode cX6_isBeside 22 = .ok (.irem, 1) := by decide +kernel
theorem dX6_isBeside_23 : decode cX6_isBeside 23 = .ok (.isub, 1) := by decide +kernel
theorem dX6_isBeside_24 : decode cX6_isBeside 24 = .ok (.i2l, 1) := by decide +kernel
theorem dX6_isBeside_25 : decode cX6_isBeside 25 = .ok (.lstore 5, 2) := by decide +kernel
theorem dX6_isBeside_27 : decode cX6_isBeside 27 = .ok (.iload_n 2, 1) := by decide +kernel
theorem dX6_isBeside_28 : decode cX6_isBeside 28 = .ok (.sipush 10000, 3) := by decide +kernel
theorem dX6_isBeside_31 : decode cX6_isBeside 31 = .ok (.idiv, 1) := by decide +kernel
theorem dX6_isBeside_32 : decode cX6_isBeside 32 = .ok (.iload_n 1, 1) := by decide +kernel
theorem dX6_isBeside_33 : decode cX6_isBeside 33 = .ok (.sipush 10000, 3) := by decide +kernel
theorem dX6_isBeside_36 : decode cX6_isBeside 36 = .ok (.idiv, 1) := by decide +kernel
theorem dX6_isBeside_37 : decode cX6_isBeside 37 = .ok (.isub, 1) := by decide +kernel
theorem dX6_isBeside_38 : decode cX6_isBeside 38 = .ok (.i2l, 1) := by decide +kernel
theorem dX6_isBeside_39 : decode cX6_isBeside 39 = .ok (.lstore 7, 2) := by decide +kernel
theorem dX6_isBeside_41 : decode cX6_isBeside 41 = .ok (.iload_n 2, 1) := by decide +kernel
theorem dX6_isBeside_42 : decode cX6_isBeside 42 = .ok (.sipush 10000, 3) := by decide +kernel
theorem dX6_isBeside_45 : decode cX6_isBeside 45 = .ok (.irem, 1) := by decide +kernel
theorem dX6_isBeside_46 : decode cX6_isBeside 46 = .ok (.iload_n 1, 1) := by decide +kernel
theorem dX6_isBeside_47 : decode cX6_isBeside 47 = .ok (.sipush 10000, 3) := by decide +kernel
theorem dX6_isBeside_50 : decode cX6_isBeside 50 = .ok (.irem, 1) := by decide +kernel
theorem dX6_isBeside_51 : decode cX6_isBeside 51 = .ok (.isub, 1) := by decide +kernel
theorem dX6_isBeside_52 : decode cX6_isBeside 52 = .ok (.i2l, 1) := by decide +kernel
theorem dX6_isBeside_53 : decode cX6_isBeside 53 = .ok (.lstore 9, 2) := by decide +kernel
theorem dX6_isBeside_55 : decode cX6_isBeside 55 = .ok (.lload_n 3, 1) := by decide +kernel
theorem dX6_isBeside_56 : decode cX6_isBeside 56 = .ok (.lload 7, 2) := by decide +kernel
theorem dX6_isBeside_58 : decode cX6_isBeside 58 = .ok (.lmul, 1) := by decide +kernel
theorem dX6_isBeside_59 : decode cX6_isBeside 59 = .ok (.lload 5, 2) := by decide +kernel
theorem dX6_isBeside_61 : decode cX6_isBeside 61 = .ok (.lload 9, 2) := by decide +kernel
theorem dX6_isBeside_63 : decode cX6_isBeside 63 = .ok (.lmul, 1) := by decide +kernel
theorem dX6_isBeside_64 : decode cX6_isBeside 64 = .ok (.ladd, 1) := by decide +kernel
theorem dX6_isBeside_65 : decode cX6_isBeside 65 = .ok (.lstore 11, 2) := by decide +kernel
theorem dX6_isBeside_67 : decode cX6_isBeside 67 = .ok (.lload 7, 2) := by decide +kernel
theorem dX6_isBeside_69 : decode cX6_isBeside 69 = .ok (.lload 7, 2) := by decide +kernel
theorem dX6_isBeside_71 : decode cX6_isBeside 71 = .ok (.lmul, 1) := by decide +kernel
theorem dX6_isBeside_72 : decode cX6_isBeside 72 = .ok (.lload 9, 2) := by decide +kernel
theorem dX6_isBeside_74 : decode cX6_isBeside 74 = .ok (.lload 9, 2) := by decide +kernel
theorem dX6_isBeside_76 : decode cX6_isBeside 76 = .ok (.lmul, 1) := by decide +kernel
theorem dX6_isBeside_77 : decode cX6_isBeside 77 = .ok (.ladd, 1) := by decide +kernel
theorem dX6_isBeside_78 : decode cX6_isBeside 78 = .ok (.lstore 13, 2) := by decide +kernel
theorem dX6_isBeside_80 : decode cX6_isBeside 80 = .ok (.lload 11, 2) := by decide +kernel
theorem dX6_isBeside_82 : decode cX6_isBeside 82 = .ok (.lconst 0, 1) := by decide +kernel
theorem dX6_isBeside_83 : decode cX6_isBeside 83 = .ok (.lcmp, 1) := by decide +kernel
theorem dX6_isBeside_84 : decode cX6_isBeside 84 = .ok (.ifCond .gt 25, 3) := by decide +kernel
theorem dX6_isBeside_87 : decode cX6_isBeside 87 = .ok (.lload_n 3, 1) := by decide +kernel
theorem dX6_isBeside_88 : decode cX6_isBeside 88 = .ok (.lload_n 3, 1) := by decide +kernel
theorem dX6_isBeside_89 : decode cX6_isBeside 89 = .ok (.lmul, 1) := by decide +kernel
theorem dX6_isBeside_90 : decode cX6_isBeside 90 = .ok (.lload 5, 2) := by decide +kernel
theorem dX6_isBeside_92 : decode cX6_isBeside 92 = .ok (.lload 5, 2) := by decide +kernel
theorem dX6_isBeside_94 : decode cX6_isBeside 94 = .ok (.lmul, 1) := by decide +kernel
theorem dX6_isBeside_95 : decode cX6_isBeside 95 = .ok (.ladd, 1) := by decide +kernel
theorem dX6_isBeside_96 : decode cX6_isBeside 96 = .ok (.ldc2_w 113, 3) := by decide +kernel
theorem dX6_isBeside_99 : decode cX6_isBeside 99 = .ok (.lcmp, 1) := by decide +kernel
theorem dX6_isBeside_100 : decode cX6_isBeside 100 = .ok (.ifCond .gt 7, 3) := by decide +kernel
theorem dX6_isBeside_103 : decode cX6_isBeside 103 = .ok (.iconst 1, 1) := by decide +kernel
theorem dX6_isBeside_104 : decode cX6_isBeside 104 = .ok (.goto 4, 3) := by decide +kernel
theorem dX6_isBeside_107 : decode cX6_isBeside 107 = .ok (.iconst 0, 1) := by decide +kernel
theorem dX6_isBeside_108 : decode cX6_isBeside 108 = .ok (.ireturn, 1) := by decide +kernel
theorem dX6_isBeside_109 : decode cX6_isBeside 109 = .ok (.lload 11, 2) := by decide +kernel
theorem dX6_isBeside_111 : decode cX6_isBeside 111 = .ok (.lload 13, 2) := by decide +kernel
theorem dX6_isBeside_113 : decode cX6_isBeside 113 = .ok (.lcmp, 1) := by decide +kernel
theorem dX6_isBeside_114 : decode cX6_isBeside 114 = .ok (.ifCond .lt 21, 3) := by decide +kernel
theorem dX6_isBeside_117 : decode cX6_isBeside 117 = .ok (.iload_n 0, 1) := by decide +kernel
theorem dX6_isBeside_118 : decode cX6_isBeside 118 = .ok (.iload_n 2, 1) := by decide +kernel
theorem dX6_isBeside_119 : decode cX6_isBeside 119 = .ok (.invokestatic 104, 3) := by decide +kernel
theorem dX6_isBeside_122 : decode cX6_isBeside 122 = .ok (.ldc2_w 113, 3) := by decide +kernel
theorem dX6_isBeside_125 : decode cX6_isBeside 125 = .ok (.lcmp, 1) := by decide +kernel
theorem dX6_isBeside_126 : decode cX6_isBeside 126 = .ok (.ifCond .gt 7, 3) := by decide +kernel
theorem dX6_isBeside_129 : decode cX6_isBeside 129 = .ok (.iconst 1, 1) := by decide +kernel
theorem dX6_isBeside_130 : decode cX6_isBeside 130 = .ok (.goto 4, 3) := by decide +kernel
theorem dX6_isBeside_133 : decode cX6_isBeside 133 = .ok (.iconst 0, 1) := by decide +kernel
theorem dX6_isBeside_134 : decode cX6_isBeside 134 = .ok (.ireturn, 1) := by decide +kernel
theorem dX6_isBeside_135 : decode cX6_isBeside 135 = .ok (.lload_n 3, 1) := by decide +kernel
theorem dX6_isBeside_136 : decode cX6_isBeside 136 = .ok (.lload 9, 2) := by decide +kernel
theorem dX6_isBeside_138 : decode cX6_isBeside 138 = .ok (.lmul, 1) := by decide +kernel
theorem dX6_isBeside_139 : decode cX6_isBeside 139 = .ok (.lload 5, 2) := by decide +kernel
theorem dX6_isBeside_141 : decode cX6_isBeside 141 = .ok (.lload 7, 2) := by decide +kernel
theorem dX6_isBeside_143 : decode cX6_isBeside 143 = .ok (.lmul, 1) := by decide +kernel
theorem dX6_isBeside_144 : decode cX6_isBeside 144 = .ok (.lsub, 1) := by decide +kernel
theorem dX6_isBeside_145 : decode cX6_isBeside 145 = .ok (.lstore 15, 2) := by decide +kernel
theorem dX6_isBeside_147 : decode cX6_isBeside 147 = .ok (.lload 15, 2) := by decide +kernel
theorem dX6_isBeside_149 : decode cX6_isBeside 149 = .ok (.lload 15, 2) := by decide +kernel
theorem dX6_isBeside_151 : decode cX6_isBeside 151 = .ok (.lmul, 1) := by decide +kernel
theorem dX6_isBeside_152 : decode cX6_isBeside 152 = .ok (.ldc2_w 113, 3) := by decide +kernel
theorem dX6_isBeside_155 : decode cX6_isBeside 155 = .ok (.lload 13, 2) := by decide +kernel
theorem dX6_isBeside_157 : decode cX6_isBeside 157 = .ok (.lmul, 1) := by decide +kernel
theorem dX6_isBeside_158 : decode cX6_isBeside 158 = .ok (.lcmp, 1) := by decide +kernel
theorem dX6_isBeside_159 : decode cX6_isBeside 159 = .ok (.ifCond .gt 7, 3) := by decide +kernel
theorem dX6_isBeside_162 : decode cX6_isBeside 162 = .ok (.iconst 1, 1) := by decide +kernel
theorem dX6_isBeside_163 : decode cX6_isBeside 163 = .ok (.goto 4, 3) := by decide +kernel
theorem dX6_isBeside_166 : decode cX6_isBeside 166 = .ok (.iconst 0, 1) := by decide +kernel
theorem dX6_isBeside_167 : decode cX6_isBeside 167 = .ok (.ireturn, 1) := by decide +kernel
theorem dX6_isOn_0 : decode cX6_isOn 0 = .ok (.iload_n 2, 1) := by decide +kernel
theorem dX6_isOn_1 : decode cX6_isOn 1 = .ok (.ifCond .ge 19, 3) := by decide +kernel
theorem dX6_isOn_4 : decode cX6_isOn 4 = .ok (.iload_n 3, 1) := by decide +kernel
theorem dX6_isOn_5 : decode cX6_isOn 5 = .ok (.aload_n 0, 1) := by decide +kernel
theorem dX6_isOn_6 : decode cX6_isOn 6 = .ok (.getfield 61, 3) := by decide +kernel
theorem dX6_isOn_9 : decode cX6_isOn 9 = .ok (.iload_n 1, 1) := by decide +kernel
theorem dX6_isOn_10 : decode cX6_isOn 10 = .ok (.iaload, 1) := by decide +kernel
theorem dX6_isOn_11 : decode cX6_isOn 11 = .ok (.if_icmp .ne 7, 3) := by decide +kernel
theorem dX6_isOn_14 : decode cX6_isOn 14 = .ok (.iconst 1, 1) := by decide +kernel
theorem dX6_isOn_15 : decode cX6_isOn 15 = .ok (.goto 4, 3) := by decide +kernel
theorem dX6_isOn_18 : decode cX6_isOn 18 = .ok (.iconst 0, 1) := by decide +kernel
theorem dX6_isOn_19 : decode cX6_isOn 19 = .ok (.ireturn, 1) := by decide +kernel
theorem dX6_isOn_20 : decode cX6_isOn 20 = .ok (.aload_n 0, 1) := by decide +kernel
theorem dX6_isOn_21 : decode cX6_isOn 21 = .ok (.getfield 64, 3) := by decide +kernel
theorem dX6_isOn_24 : decode cX6_isOn 24 = .ok (.iload_n 1, 1) := by decide +kernel
theorem dX6_isOn_25 : decode cX6_isOn 25 = .ok (.iaload, 1) := by decide +kernel
theorem dX6_isOn_26 : decode cX6_isOn 26 = .ok (.aload_n 0, 1) := by decide +kernel
theorem dX6_isOn_27 : decode cX6_isOn 27 = .ok (.getfield 67, 3) := by decide +kernel
theorem dX6_isOn_30 : decode cX6_isOn 30 = .ok (.iload_n 1, 1) := by decide +kernel
theorem dX6_isOn_31 : decode cX6_isOn 31 = .ok (.iaload, 1) := by decide +kernel
theorem dX6_isOn_32 : decode cX6_isOn 32 = .ok (.if_icmp .ge 12, 3) := by decide +kernel
theorem dX6_isOn_35 : decode cX6_isOn 35 = .ok (.aload_n 0, 1) := by decide +kernel
theorem dX6_isOn_36 : decode cX6_isOn 36 = .ok (.getfield 64, 3) := by decide +kernel
theorem dX6_isOn_39 : decode cX6_isOn 39 = .ok (.iload_n 1, 1) := by decide +kernel
theorem dX6_isOn_40 : decode cX6_isOn 40 = .ok (.iaload, 1) := by decide +kernel
theorem dX6_isOn_41 : decode cX6_isOn 41 = .ok (.goto 9, 3) := by decide +kernel
theorem dX6_isOn_44 : decode cX6_isOn 44 = .ok (.aload_n 0, 1) := by decide +kernel
theorem dX6_isOn_45 : decode cX6_isOn 45 = .ok (.getfield 67, 3) := by decide +kernel
theorem dX6_isOn_48 : decode cX6_isOn 48 = .ok (.iload_n 1, 1) := by decide +kernel
theorem dX6_isOn_49 : decode cX6_isOn 49 = .ok (.iaload, 1) := by decide +kernel
theorem dX6_isOn_50 : decode cX6_isOn 50 = .ok (.istore 4, 2) := by decide +kernel
theorem dX6_isOn_52 : decode cX6_isOn 52 = .ok (.aload_n 0, 1) := by decide +kernel
theorem dX6_isOn_53 : decode cX6_isOn 53 = .ok (.getfield 64, 3) := by decide +kernel
theorem dX6_isOn_56 : decode cX6_isOn 56 = .ok (.iload_n 1, 1) := by decide +kernel
theorem dX6_isOn_57 : decode cX6_isOn 57 = .ok (.iaload, 1) := by decide +kernel
theorem dX6_isOn_58 : decode cX6_isOn 58 = .ok (.aload_n 0, 1) := by decide +kernel
theorem dX6_isOn_59 : decode cX6_isOn 59 = .ok (.getfield 67, 3) := by decide +kernel
theorem dX6_isOn_62 : decode cX6_isOn 62 = .ok (.iload_n 1, 1) := by decide +kernel
theorem dX6_isOn_63 : decode cX6_isOn 63 = .ok (.iaload, 1) := by decide +kernel
theorem dX6_isOn_64 : decode cX6_isOn 64 = .ok (.iadd, 1) := by decide +kernel
theorem dX6_isOn_65 : decode cX6_isOn 65 = .ok (.iload 4, 2) := by decide +kernel
theorem dX6_isOn_67 : decode cX6_isOn 67 = .ok (.isub, 1) := by decide +kernel
theorem dX6_isOn_68 : decode cX6_isOn 68 = .ok (.istore 5, 2) := by decide +kernel
theorem dX6_isOn_70 : decode cX6_isOn 70 = .ok (.iconst 0, 1) := by decide +kernel
theorem dX6_isOn_71 : decode cX6_isOn 71 = .ok (.istore 6, 2) := by decide +kernel
theorem dX6_isOn_73 : decode cX6_isOn 73 = .ok (.iload 4, 2) := by decide +kernel
theorem dX6_isOn_75 : decode cX6_isOn 75 = .ok (.istore 7, 2) := by decide +kernel
theorem dX6_isOn_77 : decode cX6_isOn 77 = .ok (.iload 7, 2) := by decide +kernel
theorem dX6_isOn_79 : decode cX6_isOn 79 = .ok (.iload 5, 2) := by decide +kernel
theorem dX6_isOn_81 : decode cX6_isOn 81 = .ok (.if_icmp .ge 64, 3) := by decide +kernel
theorem dX6_isOn_84 : decode cX6_isOn 84 = .ok (.iload 6, 2) := by decide +kernel
theorem dX6_isOn_86 : decode cX6_isOn 86 = .ok (.ifCond .ne 46, 3) := by decide +kernel
theorem dX6_isOn_89 : decode cX6_isOn 89 = .ok (.iload_n 2, 1) := by decide +kernel
theorem dX6_isOn_90 : decode cX6_isOn 90 = .ok (.aload_n 0, 1) := by decide +kernel
theorem dX6_isOn_91 : decode cX6_isOn 91 = .ok (.getfield 28, 3) := by decide +kernel
theorem dX6_isOn_94 : decode cX6_isOn 94 = .ok (.bipush 8, 2) := by decide +kernel
theorem dX6_isOn_96 : decode cX6_isOn 96 = .ok (.aload_n 0, 1) := by decide +kernel
theorem dX6_isOn_97 : decode cX6_isOn 97 = .ok (.getfield 61, 3) := by decide +kernel
theorem dX6_isOn_100 : decode cX6_isOn 100 = .ok (.iload_n 1, 1) := by decide +kernel
theorem dX6_isOn_101 : decode cX6_isOn 101 = .ok (.iaload, 1) := by decide +kernel
theorem dX6_isOn_102 : decode cX6_isOn 102 = .ok (.imul, 1) := by decide +kernel
theorem dX6_isOn_103 : decode cX6_isOn 103 = .ok (.iload 7, 2) := by decide +kernel
theorem dX6_isOn_105 : decode cX6_isOn 105 = .ok (.iadd, 1) := by decide +kernel
theorem dX6_isOn_106 : decode cX6_isOn 106 = .ok (.iaload, 1) := by decide +kernel
theorem dX6_isOn_107 : decode cX6_isOn 107 = .ok (.aload_n 0, 1) := by decide +kernel
theorem dX6_isOn_108 : decode cX6_isOn 108 = .ok (.getfield 28, 3) := by decide +kernel
theorem dX6_isOn_111 : decode cX6_isOn 111 = .ok (.bipush 8, 2) := by decide +kernel
theorem dX6_isOn_113 : decode cX6_isOn 113 = .ok (.aload_n 0, 1) := by decide +kernel
theorem dX6_isOn_114 : decode cX6_isOn 114 = .ok (.getfield 61, 3) := by decide +kernel
theorem dX6_isOn_117 : decode cX6_isOn 117 = .ok (.iload_n 1, 1) := by decide +kernel
theorem dX6_isOn_118 : decode cX6_isOn 118 = .ok (.iaload, 1) := by decide +kernel
theorem dX6_isOn_119 : decode cX6_isOn 119 = .ok (.imul, 1) := by decide +kernel
theorem dX6_isOn_120 : decode cX6_isOn 120 = .ok (.iload 7, 2) := by decide +kernel
theorem dX6_isOn_122 : decode cX6_isOn 122 = .ok (.iadd, 1) := by decide +kernel
theorem dX6_isOn_123 : decode cX6_isOn 123 = .ok (.iconst 1, 1) := by decide +kernel
theorem dX6_isOn_124 : decode cX6_isOn 124 = .ok (.iadd, 1) := by decide +kernel
theorem dX6_isOn_125 : decode cX6_isOn 125 = .ok (.iaload, 1) := by decide +kernel
theorem dX6_isOn_126 : decode cX6_isOn 126 = .ok (.invokestatic 115, 3) := by decide +kernel
theorem dX6_isOn_129 : decode cX6_isOn 129 = .ok (.ifCond .eq 7, 3) := by decide +kernel
theorem dX6_isOn_132 : decode cX6_isOn 132 = .ok (.iconst 1, 1) := by decide +kernel
theorem dX6_isOn_133 : decode cX6_isOn 133 = .ok (.goto 4, 3) := by decide +kernel
theorem dX6_isOn_136 : decode cX6_isOn 136 = .ok (.iconst 0, 1) := by decide +kernel
theorem dX6_isOn_137 : decode cX6_isOn 137 = .ok (.istore 6, 2) := by decide +kernel
theorem dX6_isOn_139 : decode cX6_isOn 139 = .ok (.iinc 7 1, 3) := by decide +kernel
theorem dX6_isOn_142 : decode cX6_isOn 142 = .ok (.goto (-65), 3) := by decide +kernel
theorem dX6_isOn_145 : decode cX6_isOn 145 = .ok (.iload 6, 2) := by decide +kernel
theorem dX6_isOn_147 : decode cX6_isOn 147 = .ok (.ireturn, 1) := by decide +kernel
theorem dX6_again_0 : decode cX6_again 0 = .ok (.iconst (-1), 1) := by decide +kernel
theorem dX6_again_1 : decode cX6_again 1 = .ok (.istore 4, 2) := by decide +kernel
theorem dX6_again_3 : decode cX6_again 3 = .ok (.iconst 0, 1) := by decide +kernel
theorem dX6_again_4 : decode cX6_again 4 = .ok (.istore 5, 2) := by decide +kernel
theorem dX6_again_6 : decode cX6_again 6 = .ok (.iload 5, 2) := by decide +kernel
theorem dX6_again_8 : decode cX6_again 8 = .ok (.aload_n 0, 1) := by decide +kernel
theorem dX6_again_9 : decode cX6_again 9 = .ok (.getfield 78, 3) := by decide +kernel
theorem dX6_again_12 : decode cX6_again 12 = .ok (.if_icmp .ge 42, 3) := by decide +kernel
theorem dX6_again_15 : decode cX6_again 15 = .ok (.aload_n 0, 1) := by decide +kernel
theorem dX6_again_16 : decode cX6_again 16 = .ok (.getfield 31, 3) := by decide +kernel
theorem dX6_again_19 : decode cX6_again 19 = .ok (.iload 5, 2) := by decide +kernel
theorem dX6_again_21 : decode cX6_again 21 = .ok (.iaload, 1) := by decide +kernel
theorem dX6_again_22 : decode cX6_again 22 = .ok (.iload_n 1, 1) := by decide +kernel
theorem dX6_again_23 : decode cX6_again 23 = .ok (.if_icmp .ne 25, 3) := by decide +kernel
theorem dX6_again_26 : decode cX6_again 26 = .ok (.aload_n 0, 1) := by decide +kernel
theorem dX6_again_27 : decode cX6_again 27 = .ok (.iload 5, 2) := by decide +kernel
theorem dX6_again_29 : decode cX6_again 29 = .ok (.invokevirtual 118, 3) := by decide +kernel
theorem dX6_again_32 : decode cX6_again 32 = .ok (.ifCond .eq 16, 3) := by decide +kernel
theorem dX6_again_35 : decode cX6_again 35 = .ok (.aload_n 0, 1) := by decide +kernel
theorem dX6_again_36 : decode cX6_again 36 = .ok (.iload 5, 2) := by decide +kernel
theorem dX6_again_38 : decode cX6_again 38 = .ok (.invokevirtual 121, 3) := by decide +kernel
theorem dX6_again_41 : decode cX6_again 41 = .ok (.ifCond .ne 7, 3) := by decide +kernel
theorem dX6_again_44 : decode cX6_again 44 = .ok (.iload 5, 2) := by decide +kernel
theorem dX6_again_46 : decode cX6_again 46 = .ok (.istore 4, 2) := by decide +kernel
theorem dX6_again_48 : decode cX6_again 48 = .ok (.iinc 5 1, 3) := by decide +kernel
theorem dX6_again_51 : decode cX6_again 51 = .ok (.goto (-45), 3) := by decide +kernel
theorem dX6_again_54 : decode cX6_again 54 = .ok (.iload 4, 2) := by decide +kernel
theorem dX6_again_56 : decode cX6_again 56 = .ok (.ifCond .lt 30, 3) := by decide +kernel
theorem dX6_again_59 : decode cX6_again 59 = .ok (.iload_n 3, 1) := by decide +kernel
theorem dX6_again_60 : decode cX6_again 60 = .ok (.i2l, 1) := by decide +kernel
theorem dX6_again_61 : decode cX6_again 61 = .ok (.aload_n 0, 1) := by decide +kernel
theorem dX6_again_62 : decode cX6_again 62 = .ok (.getfield 43, 3) := by decide +kernel
theorem dX6_again_65 : decode cX6_again 65 = .ok (.iload 4, 2) := by decide +kernel
theorem dX6_again_67 : decode cX6_again 67 = .ok (.iaload, 1) := by decide +kernel
theorem dX6_again_68 : decode cX6_again 68 = .ok (.i2l, 1) := by decide +kernel
theorem dX6_again_69 : decode cX6_again 69 = .ok (.lsub, 1) := by decide +kernel
theorem dX6_again_70 : decode cX6_again 70 = .ok (.aload_n 0, 1) := by decide +kernel
theorem dX6_again_71 : decode cX6_again 71 = .ok (.getfield 13, 3) := by decide +kernel
theorem dX6_again_74 : decode cX6_again 74 = .ok (.iload_n 2, 1) := by decide +kernel
theorem dX6_again_75 : decode cX6_again 75 = .ok (.iaload, 1) := by decide +kernel
end
section
theorem dX6_again_76 : decode cX6_again 76 = .ok (.i2l, 1) := by decide +kernel
theorem dX6_again_77 : decode cX6_again 77 = .ok (.lcmp, 1) := by decide +kernel
theorem dX6_again_78 : decode cX6_again 78 = .ok (.ifCond .gt 8, 3) := by decide +kernel
theorem dX6_again_81 : decode cX6_again 81 = .ok (.iload 4, 2) := by decide +kernel
theorem dX6_again_83 : decode cX6_again 83 = .ok (.goto 4, 3) := by decide +kernel
theorem dX6_again_86 : decode cX6_again 86 = .ok (.iconst (-1), 1) := by decide +kernel
theorem dX6_again_87 : decode cX6_again 87 = .ok (.ireturn, 1) := by decide +kernel
theorem dX6_onStretch_0 : decode cX6_onStretch 0 = .ok (.iconst 0, 1) := by decide +kernel
theorem dX6_onStretch_1 : decode cX6_onStretch 1 = .ok (.istore 4, 2) := by decide +kernel
theorem dX6_onStretch_3 : decode cX6_onStretch 3 = .ok (.iload 4, 2) := by decide +kernel
theorem dX6_onStretch_5 : decode cX6_onStretch 5 = .ok (.aload_n 0, 1) := by decide +kernel
theorem dX6_onStretch_6 : decode cX6_onStretch 6 = .ok (.getfield 81, 3) := by decide +kernel
theorem dX6_onStretch_9 : decode cX6_onStretch 9 = .ok (.if_icmp .ge 74, 3) := by decide +kernel
theorem dX6_onStretch_12 : decode cX6_onStretch 12 = .ok (.aload_n 0, 1) := by decide +kernel
theorem dX6_onStretch_13 : decode cX6_onStretch 13 = .ok (.getfield 58, 3) := by decide +kernel
theorem dX6_onStretch_16 : decode cX6_onStretch 16 = .ok (.iload 4, 2) := by decide +kernel
theorem dX6_onStretch_18 : decode cX6_onStretch 18 = .ok (.iaload, 1) := by decide +kernel
theorem dX6_onStretch_19 : decode cX6_onStretch 19 = .ok (.ifCond .ne 32, 3) := by decide +kernel
theorem dX6_onStretch_22 : decode cX6_onStretch 22 = .ok (.aload_n 0, 1) := by decide +kernel
theorem dX6_onStretch_23 : decode cX6_onStretch 23 = .ok (.getfield 61, 3) := by decide +kernel
theorem dX6_onStretch_26 : decode cX6_onStretch 26 = .ok (.iload 4, 2) := by decide +kernel
theorem dX6_onStretch_28 : decode cX6_onStretch 28 = .ok (.iaload, 1) := by decide +kernel
theorem dX6_onStretch_29 : decode cX6_onStretch 29 = .ok (.ifCond .lt 22, 3) := by decide +kernel
theorem dX6_onStretch_32 : decode cX6_onStretch 32 = .ok (.aload_n 0, 1) := by decide +kernel
theorem dX6_onStretch_33 : decode cX6_onStretch 33 = .ok (.getfield 34, 3) := by decide +kernel
theorem dX6_onStretch_36 : decode cX6_onStretch 36 = .ok (.aload_n 0, 1) := by decide +kernel
theorem dX6_onStretch_37 : decode cX6_onStretch 37 = .ok (.iload 4, 2) := by decide +kernel
theorem dX6_onStretch_39 : decode cX6_onStretch 39 = .ok (.invokevirtual 124, 3) := by decide +kernel
theorem dX6_onStretch_42 : decode cX6_onStretch 42 = .ok (.iaload, 1) := by decide +kernel
theorem dX6_onStretch_43 : decode cX6_onStretch 43 = .ok (.iload_n 1, 1) := by decide +kernel
theorem dX6_onStretch_44 : decode cX6_onStretch 44 = .ok (.if_icmp .ne 7, 3) := by decide +kernel
theorem dX6_onStretch_47 : decode cX6_onStretch 47 = .ok (.iconst 1, 1) := by decide +kernel
theorem dX6_onStretch_48 : decode cX6_onStretch 48 = .ok (.goto 4, 3) := by decide +kernel
theorem dX6_onStretch_51 : decode cX6_onStretch 51 = .ok (.iconst 0, 1) := by decide +kernel
theorem dX6_onStretch_52 : decode cX6_onStretch 52 = .ok (.istore 5, 2) := by decide +kernel
theorem dX6_onStretch_54 : decode cX6_onStretch 54 = .ok (.iload 5, 2) := by decide +kernel
theorem dX6_onStretch_56 : decode cX6_onStretch 56 = .ok (.ifCond .eq 21, 3) := by decide +kernel
theorem dX6_onStretch_59 : decode cX6_onStretch 59 = .ok (.aload_n 0, 1) := by decide +kernel
theorem dX6_onStretch_60 : decode cX6_onStretch 60 = .ok (.iload 4, 2) := by decide +kernel
theorem dX6_onStretch_62 : decode cX6_onStretch 62 = .ok (.iload_n 2, 1) := by decide +kernel
theorem dX6_onStretch_63 : decode cX6_onStretch 63 = .ok (.iload_n 3, 1) := by decide +kernel
theorem dX6_onStretch_64 : decode cX6_onStretch 64 = .ok (.invokevirtual 128, 3) := by decide +kernel
theorem dX6_onStretch_67 : decode cX6_onStretch 67 = .ok (.ifCond .eq 10, 3) := by decide +kernel
theorem dX6_onStretch_70 : decode cX6_onStretch 70 = .ok (.aload_n 0, 1) := by decide +kernel
theorem dX6_onStretch_71 : decode cX6_onStretch 71 = .ok (.iload 4, 2) := by decide +kernel
theorem dX6_onStretch_73 : decode cX6_onStretch 73 = .ok (.invokevirtual 124, 3) := by decide +kernel
theorem dX6_onStretch_76 : decode cX6_onStretch 76 = .ok (.ireturn, 1) := by decide +kernel
theorem dX6_onStretch_77 : decode cX6_onStretch 77 = .ok (.iinc 4 1, 3) := by decide +kernel
theorem dX6_onStretch_80 : decode cX6_onStretch 80 = .ok (.goto (-77), 3) := by decide +kernel
theorem dX6_onStretch_83 : decode cX6_onStretch 83 = .ok (.iconst (-1), 1) := by decide +kernel
theorem dX6_onStretch_84 : decode cX6_onStretch 84 = .ok (.ireturn, 1) := by decide +kernel
theorem dX6_isBetter_0 : decode cX6_isBetter 0 = .ok (.iload_n 2, 1) := by decide +kernel
theorem dX6_isBetter_1 : decode cX6_isBetter 1 = .ok (.ifCond .ge 5, 3) := by decide +kernel
theorem dX6_isBetter_4 : decode cX6_isBetter 4 = .ok (.iconst 1, 1) := by decide +kernel
theorem dX6_isBetter_5 : decode cX6_isBetter 5 = .ok (.ireturn, 1) := by decide +kernel
theorem dX6_isBetter_6 : decode cX6_isBetter 6 = .ok (.iload 4, 2) := by decide +kernel
theorem dX6_isBetter_8 : decode cX6_isBetter 8 = .ok (.ifCond .lt 53, 3) := by decide +kernel
theorem dX6_isBetter_11 : decode cX6_isBetter 11 = .ok (.aload_n 0, 1) := by decide +kernel
theorem dX6_isBetter_12 : decode cX6_isBetter 12 = .ok (.getfield 37, 3) := by decide +kernel
theorem dX6_isBetter_15 : decode cX6_isBetter 15 = .ok (.iload_n 1, 1) := by decide +kernel
theorem dX6_isBetter_16 : decode cX6_isBetter 16 = .ok (.iaload, 1) := by decide +kernel
theorem dX6_isBetter_17 : decode cX6_isBetter 17 = .ok (.ifCond .lt 44, 3) := by decide +kernel
theorem dX6_isBetter_20 : decode cX6_isBetter 20 = .ok (.aload_n 0, 1) := by decide +kernel
theorem dX6_isBetter_21 : decode cX6_isBetter 21 = .ok (.getfield 37, 3) := by decide +kernel
theorem dX6_isBetter_24 : decode cX6_isBetter 24 = .ok (.iload_n 2, 1) := by decide +kernel
theorem dX6_isBetter_25 : decode cX6_isBetter 25 = .ok (.iaload, 1) := by decide +kernel
theorem dX6_isBetter_26 : decode cX6_isBetter 26 = .ok (.ifCond .lt 35, 3) := by decide +kernel
theorem dX6_isBetter_29 : decode cX6_isBetter 29 = .ok (.aload_n 0, 1) := by decide +kernel
theorem dX6_isBetter_30 : decode cX6_isBetter 30 = .ok (.getfield 37, 3) := by decide +kernel
theorem dX6_isBetter_33 : decode cX6_isBetter 33 = .ok (.iload_n 1, 1) := by decide +kernel
theorem dX6_isBetter_34 : decode cX6_isBetter 34 = .ok (.iaload, 1) := by decide +kernel
theorem dX6_isBetter_35 : decode cX6_isBetter 35 = .ok (.iload 4, 2) := by decide +kernel
theorem dX6_isBetter_37 : decode cX6_isBetter 37 = .ok (.invokestatic 104, 3) := by decide +kernel
theorem dX6_isBetter_40 : decode cX6_isBetter 40 = .ok (.aload_n 0, 1) := by decide +kernel
theorem dX6_isBetter_41 : decode cX6_isBetter 41 = .ok (.getfield 37, 3) := by decide +kernel
theorem dX6_isBetter_44 : decode cX6_isBetter 44 = .ok (.iload_n 2, 1) := by decide +kernel
theorem dX6_isBetter_45 : decode cX6_isBetter 45 = .ok (.iaload, 1) := by decide +kernel
theorem dX6_isBetter_46 : decode cX6_isBetter 46 = .ok (.iload 4, 2) := by decide +kernel
theorem dX6_isBetter_48 : decode cX6_isBetter 48 = .ok (.invokestatic 104, 3) := by decide +kernel
theorem dX6_isBetter_51 : decode cX6_isBetter 51 = .ok (.lcmp, 1) := by decide +kernel
theorem dX6_isBetter_52 : decode cX6_isBetter 52 = .ok (.ifCond .ge 7, 3) := by decide +kernel
theorem dX6_isBetter_55 : decode cX6_isBetter 55 = .ok (.iconst 1, 1) := by decide +kernel
theorem dX6_isBetter_56 : decode cX6_isBetter 56 = .ok (.goto 4, 3) := by decide +kernel
theorem dX6_isBetter_59 : decode cX6_isBetter 59 = .ok (.iconst 0, 1) := by decide +kernel
theorem dX6_isBetter_60 : decode cX6_isBetter 60 = .ok (.ireturn, 1) := by decide +kernel
theorem dX6_isBetter_61 : decode cX6_isBetter 61 = .ok (.aload_n 0, 1) := by decide +kernel
theorem dX6_isBetter_62 : decode cX6_isBetter 62 = .ok (.aload_n 0, 1) := by decide +kernel
theorem dX6_isBetter_63 : decode cX6_isBetter 63 = .ok (.getfield 40, 3) := by decide +kernel
theorem dX6_isBetter_66 : decode cX6_isBetter 66 = .ok (.iload_n 1, 1) := by decide +kernel
theorem dX6_isBetter_67 : decode cX6_isBetter 67 = .ok (.iaload, 1) := by decide +kernel
theorem dX6_isBetter_68 : decode cX6_isBetter 68 = .ok (.iload 5, 2) := by decide +kernel
theorem dX6_isBetter_70 : decode cX6_isBetter 70 = .ok (.iand, 1) := by decide +kernel
theorem dX6_isBetter_71 : decode cX6_isBetter 71 = .ok (.iload_n 3, 1) := by decide +kernel
theorem dX6_isBetter_72 : decode cX6_isBetter 72 = .ok (.invokevirtual 100, 3) := by decide +kernel
theorem dX6_isBetter_75 : decode cX6_isBetter 75 = .ok (.aload_n 0, 1) := by decide +kernel
theorem dX6_isBetter_76 : decode cX6_isBetter 76 = .ok (.aload_n 0, 1) := by decide +kernel
theorem dX6_isBetter_77 : decode cX6_isBetter 77 = .ok (.getfield 40, 3) := by decide +kernel
theorem dX6_isBetter_80 : decode cX6_isBetter 80 = .ok (.iload_n 2, 1) := by decide +kernel
theorem dX6_isBetter_81 : decode cX6_isBetter 81 = .ok (.iaload, 1) := by decide +kernel
theorem dX6_isBetter_82 : decode cX6_isBetter 82 = .ok (.iload 5, 2) := by decide +kernel
theorem dX6_isBetter_84 : decode cX6_isBetter 84 = .ok (.ior, 1) := by decide +kernel
theorem dX6_isBetter_85 : decode cX6_isBetter 85 = .ok (.iload_n 3, 1) := by decide +kernel
theorem dX6_isBetter_86 : decode cX6_isBetter 86 = .ok (.invokevirtual 100, 3) := by decide +kernel
theorem dX6_isBetter_89 : decode cX6_isBetter 89 = .ok (.imul, 1) := by decide +kernel
theorem dX6_isBetter_90 : decode cX6_isBetter 90 = .ok (.aload_n 0, 1) := by decide +kernel
theorem dX6_isBetter_91 : decode cX6_isBetter 91 = .ok (.aload_n 0, 1) := by decide +kernel
theorem dX6_isBetter_92 : decode cX6_isBetter 92 = .ok (.getfield 40, 3) := by decide +kernel
theorem dX6_isBetter_95 : decode cX6_isBetter 95 = .ok (.iload_n 2, 1) := by decide +kernel
theorem dX6_isBetter_96 : decode cX6_isBetter 96 = .ok (.iaload, 1) := by decide +kernel
theorem dX6_isBetter_97 : decode cX6_isBetter 97 = .ok (.iload 5, 2) := by decide +kernel
theorem dX6_isBetter_99 : decode cX6_isBetter 99 = .ok (.iand, 1) := by decide +kernel
theorem dX6_isBetter_100 : decode cX6_isBetter 100 = .ok (.iload_n 3, 1) := by decide +kernel
theorem dX6_isBetter_101 : decode cX6_isBetter 101 = .ok (.invokevirtual 100, 3) := by decide +kernel
theorem dX6_isBetter_104 : decode cX6_isBetter 104 = .ok (.aload_n 0, 1) := by decide +kernel
theorem dX6_isBetter_105 : decode cX6_isBetter 105 = .ok (.aload_n 0, 1) := by decide +kernel
theorem dX6_isBetter_106 : decode cX6_isBetter 106 = .ok (.getfield 40, 3) := by decide +kernel
theorem dX6_isBetter_109 : decode cX6_isBetter 109 = .ok (.iload_n 1, 1) := by decide +kernel
theorem dX6_isBetter_110 : decode cX6_isBetter 110 = .ok (.iaload, 1) := by decide +kernel
theorem dX6_isBetter_111 : decode cX6_isBetter 111 = .ok (.iload 5, 2) := by decide +kernel
theorem dX6_isBetter_113 : decode cX6_isBetter 113 = .ok (.ior, 1) := by decide +kernel
theorem dX6_isBetter_114 : decode cX6_isBetter 114 = .ok (.iload_n 3, 1) := by decide +kernel
theorem dX6_isBetter_115 : decode cX6_isBetter 115 = .ok (.invokevirtual 100, 3) := by decide +kernel
theorem dX6_isBetter_118 : decode cX6_isBetter 118 = .ok (.imul, 1) := by decide +kernel
theorem dX6_isBetter_119 : decode cX6_isBetter 119 = .ok (.if_icmp .le 7, 3) := by decide +kernel
theorem dX6_isBetter_122 : decode cX6_isBetter 122 = .ok (.iconst 1, 1) := by decide +kernel
theorem dX6_isBetter_123 : decode cX6_isBetter 123 = .ok (.goto 4, 3) := by decide +kernel
theorem dX6_isBetter_126 : decode cX6_isBetter 126 = .ok (.iconst 0, 1) := by decide +kernel
theorem dX6_isBetter_127 : decode cX6_isBetter 127 = .ok (.ireturn, 1) := by decide +kernel
theorem dX6_agreeing_0 : decode cX6_agreeing 0 = .ok (.iconst (-1), 1) := by decide +kernel
theorem dX6_agreeing_1 : decode cX6_agreeing 1 = .ok (.istore 6, 2) := by decide +kernel
theorem dX6_agreeing_3 : decode cX6_agreeing 3 = .ok (.iconst 0, 1) := by decide +kernel
theorem dX6_agreeing_4 : decode cX6_agreeing 4 = .ok (.istore 7, 2) := by decide +kernel
theorem dX6_agreeing_6 : decode cX6_agreeing 6 = .ok (.iload 7, 2) := by decide +kernel
theorem dX6_agreeing_8 : decode cX6_agreeing 8 = .ok (.aload_n 0, 1) := by decide +kernel
theorem dX6_agreeing_9 : decode cX6_agreeing 9 = .ok (.getfield 78, 3) := by decide +kernel
theorem dX6_agreeing_12 : decode cX6_agreeing 12 = .ok (.if_icmp .ge 94, 3) := by decide +kernel
theorem dX6_agreeing_15 : decode cX6_agreeing 15 = .ok (.aload_n 0, 1) := by decide +kernel
theorem dX6_agreeing_16 : decode cX6_agreeing 16 = .ok (.getfield 34, 3) := by decide +kernel
theorem dX6_agreeing_19 : decode cX6_agreeing 19 = .ok (.iload 7, 2) := by decide +kernel
theorem dX6_agreeing_21 : decode cX6_agreeing 21 = .ok (.iaload, 1) := by decide +kernel
theorem dX6_agreeing_22 : decode cX6_agreeing 22 = .ok (.iload_n 2, 1) := by decide +kernel
theorem dX6_agreeing_23 : decode cX6_agreeing 23 = .ok (.if_icmp .ne 41, 3) := by decide +kernel
theorem dX6_agreeing_26 : decode cX6_agreeing 26 = .ok (.aload_n 0, 1) := by decide +kernel
theorem dX6_agreeing_27 : decode cX6_agreeing 27 = .ok (.iload 7, 2) := by decide +kernel
theorem dX6_agreeing_29 : decode cX6_agreeing 29 = .ok (.invokevirtual 118, 3) := by decide +kernel
theorem dX6_agreeing_32 : decode cX6_agreeing 32 = .ok (.ifCond .eq 32, 3) := by decide +kernel
theorem dX6_agreeing_35 : decode cX6_agreeing 35 = .ok (.aload_n 0, 1) := by decide +kernel
theorem dX6_agreeing_36 : decode cX6_agreeing 36 = .ok (.iload 7, 2) := by decide +kernel
theorem dX6_agreeing_38 : decode cX6_agreeing 38 = .ok (.invokevirtual 121, 3) := by decide +kernel
theorem dX6_agreeing_41 : decode cX6_agreeing 41 = .ok (.ifCond .ne 23, 3) := by decide +kernel
theorem dX6_agreeing_44 : decode cX6_agreeing 44 = .ok (.aload_n 0, 1) := by decide +kernel
theorem dX6_agreeing_45 : decode cX6_agreeing 45 = .ok (.iload 7, 2) := by decide +kernel
theorem dX6_agreeing_47 : decode cX6_agreeing 47 = .ok (.iload_n 2, 1) := by decide +kernel
theorem dX6_agreeing_48 : decode cX6_agreeing 48 = .ok (.iload_n 3, 1) := by decide +kernel
theorem dX6_agreeing_49 : decode cX6_agreeing 49 = .ok (.iload 4, 2) := by decide +kernel
theorem dX6_agreeing_51 : decode cX6_agreeing 51 = .ok (.iload 5, 2) := by decide +kernel
theorem dX6_agreeing_53 : decode cX6_agreeing 53 = .ok (.invokevirtual 131, 3) := by decide +kernel
theorem dX6_agreeing_56 : decode cX6_agreeing 56 = .ok (.iload_n 1, 1) := by decide +kernel
theorem dX6_agreeing_57 : decode cX6_agreeing 57 = .ok (.if_icmp .ne 7, 3) := by decide +kernel
theorem dX6_agreeing_60 : decode cX6_agreeing 60 = .ok (.iconst 1, 1) := by decide +kernel
theorem dX6_agreeing_61 : decode cX6_agreeing 61 = .ok (.goto 4, 3) := by decide +kernel
theorem dX6_agreeing_64 : decode cX6_agreeing 64 = .ok (.iconst 0, 1) := by decide +kernel
theorem dX6_agreeing_65 : decode cX6_agreeing 65 = .ok (.istore 8, 2) := by decide +kernel
theorem dX6_agreeing_67 : decode cX6_agreeing 67 = .ok (.iload 8, 2) := by decide +kernel
theorem dX6_agreeing_69 : decode cX6_agreeing 69 = .ok (.ifCond .eq 31, 3) := by decide +kernel
theorem dX6_agreeing_72 : decode cX6_agreeing 72 = .ok (.aload_n 0, 1) := by decide +kernel
theorem dX6_agreeing_73 : decode cX6_agreeing 73 = .ok (.iload 7, 2) := by decide +kernel
theorem dX6_agreeing_75 : decode cX6_agreeing 75 = .ok (.iload 6, 2) := by decide +kernel
theorem dX6_agreeing_77 : decode cX6_agreeing 77 = .ok (.iload_n 2, 1) := by decide +kernel
theorem dX6_agreeing_78 : decode cX6_agreeing 78 = .ok (.iload_n 1, 1) := by decide +kernel
theorem dX6_agreeing_79 : decode cX6_agreeing 79 = .ok (.iconst 2, 1) := by decide +kernel
theorem dX6_agreeing_80 : decode cX6_agreeing 80 = .ok (.if_icmp .ne 7, 3) := by decide +kernel
theorem dX6_agreeing_83 : decode cX6_agreeing 83 = .ok (.iconst (-1), 1) := by decide +kernel
theorem dX6_agreeing_84 : decode cX6_agreeing 84 = .ok (.goto 4, 3) := by decide +kernel
theorem dX6_agreeing_87 : decode cX6_agreeing 87 = .ok (.iload_n 3, 1) := by decide +kernel
theorem dX6_agreeing_88 : decode cX6_agreeing 88 = .ok (.iload 4, 2) := by decide +kernel
theorem dX6_agreeing_90 : decode cX6_agreeing 90 = .ok (.invokevirtual 135, 3) := by decide +kernel
theorem dX6_agreeing_93 : decode cX6_agreeing 93 = .ok (.ifCond .eq 7, 3) := by decide +kernel
theorem dX6_agreeing_96 : decode cX6_agreeing 96 = .ok (.iload 7, 2) := by decide +kernel
theorem dX6_agreeing_98 : decode cX6_agreeing 98 = .ok (.istore 6, 2) := by decide +kernel
theorem dX6_agreeing_100 : decode cX6_agreeing 100 = .ok (.iinc 7 1, 3) := by decide +kernel
theorem dX6_agreeing_103 : decode cX6_agreeing 103 = .ok (.goto (-97), 3) := by decide +kernel
theorem dX6_agreeing_106 : decode cX6_agreeing 106 = .ok (.iload 6, 2) := by decide +kernel
theorem dX6_agreeing_108 : decode cX6_agreeing 108 = .ok (.ireturn, 1) := by decide +kernel
theorem dX6_reason_0 : decode cX6_reason 0 = .ok (.aload_n 0, 1) := by decide +kernel
theorem dX6_reason_1 : decode cX6_reason 1 = .ok (.iconst 1, 1) := by decide +kernel
theorem dX6_reason_2 : decode cX6_reason 2 = .ok (.putfield 139, 3) := by decide +kernel
theorem dX6_reason_5 : decode cX6_reason 5 = .ok (.aload_n 0, 1) := by decide +kernel
theorem dX6_reason_6 : decode cX6_reason 6 = .ok (.iload_n 1, 1) := by decide +kernel
theorem dX6_reason_7 : decode cX6_reason 7 = .ok (.iload_n 2, 1) := by decide +kernel
theorem dX6_reason_8 : decode cX6_reason 8 = .ok (.iload 6, 2) := by decide +kernel
theorem dX6_reason_10 : decode cX6_reason 10 = .ok (.invokevirtual 142, 3) := by decide +kernel
theorem dX6_reason_13 : decode cX6_reason 13 = .ok (.istore 7, 2) := by decide +kernel
theorem dX6_reason_15 : decode cX6_reason 15 = .ok (.iload 7, 2) := by decide +kernel
theorem dX6_reason_17 : decode cX6_reason 17 = .ok (.ifCond .lt 6, 3) := by decide +kernel
theorem dX6_reason_20 : decode cX6_reason 20 = .ok (.iload 7, 2) := by decide +kernel
theorem dX6_reason_22 : decode cX6_reason 22 = .ok (.ireturn, 1) := by decide +kernel
theorem dX6_reason_23 : decode cX6_reason 23 = .ok (.aload_n 0, 1) := by decide +kernel
theorem dX6_reason_24 : decode cX6_reason 24 = .ok (.iconst 2, 1) := by decide +kernel
theorem dX6_reason_25 : decode cX6_reason 25 = .ok (.putfield 139, 3) := by decide +kernel
theorem dX6_reason_28 : decode cX6_reason 28 = .ok (.aload_n 0, 1) := by decide +kernel
theorem dX6_reason_29 : decode cX6_reason 29 = .ok (.iload_n 2, 1) := by decide +kernel
theorem dX6_reason_30 : decode cX6_reason 30 = .ok (.iload_n 3, 1) := by decide +kernel
theorem dX6_reason_31 : decode cX6_reason 31 = .ok (.iload 5, 2) := by decide +kernel
theorem dX6_reason_33 : decode cX6_reason 33 = .ok (.invokevirtual 146, 3) := by decide +kernel
theorem dX6_reason_36 : decode cX6_reason 36 = .ok (.istore 7, 2) := by decide +kernel
theorem dX6_reason_38 : decode cX6_reason 38 = .ok (.iload 7, 2) := by decide +kernel
theorem dX6_reason_40 : decode cX6_reason 40 = .ok (.ifCond .lt 6, 3) := by decide +kernel
theorem dX6_reason_43 : decode cX6_reason 43 = .ok (.iload 7, 2) := by decide +kernel
theorem dX6_reason_45 : decode cX6_reason 45 = .ok (.ireturn, 1) := by decide +kernel
theorem dX6_reason_46 : decode cX6_reason 46 = .ok (.aload_n 0, 1) := by decide +kernel
theorem dX6_reason_47 : decode cX6_reason 47 = .ok (.iconst 3, 1) := by decide +kernel
theorem dX6_reason_48 : decode cX6_reason 48 = .ok (.putfield 139, 3) := by decide +kernel
theorem dX6_reason_51 : decode cX6_reason 51 = .ok (.aload_n 0, 1) := by decide +kernel
theorem dX6_reason_52 : decode cX6_reason 52 = .ok (.iconst 1, 1) := by decide +kernel
theorem dX6_reason_53 : decode cX6_reason 53 = .ok (.iload_n 2, 1) := by decide +kernel
theorem dX6_reason_54 : decode cX6_reason 54 = .ok (.iload_n 3, 1) := by decide +kernel
theorem dX6_reason_55 : decode cX6_reason 55 = .ok (.iload 4, 2) := by decide +kernel
theorem dX6_reason_57 : decode cX6_reason 57 = .ok (.iload 6, 2) := by decide +kernel
theorem dX6_reason_59 : decode cX6_reason 59 = .ok (.invokevirtual 149, 3) := by decide +kernel
theorem dX6_reason_62 : decode cX6_reason 62 = .ok (.istore 7, 2) := by decide +kernel
theorem dX6_reason_64 : decode cX6_reason 64 = .ok (.iload 7, 2) := by decide +kernel
theorem dX6_reason_66 : decode cX6_reason 66 = .ok (.ifCond .lt 6, 3) := by decide +kernel
theorem dX6_reason_69 : decode cX6_reason 69 = .ok (.iload 7, 2) := by decide +kernel
theorem dX6_reason_71 : decode cX6_reason 71 = .ok (.ireturn, 1) := by decide +kernel
theorem dX6_reason_72 : decode cX6_reason 72 = .ok (.aload_n 0, 1) := by decide +kernel
theorem dX6_reason_73 : decode cX6_reason 73 = .ok (.iconst 4, 1) := by decide +kernel
theorem dX6_reason_74 : decode cX6_reason 74 = .ok (.putfield 139, 3) := by decide +kernel
theorem dX6_reason_77 : decode cX6_reason 77 = .ok (.aload_n 0, 1) := by decide +kernel
theorem dX6_reason_78 : decode cX6_reason 78 = .ok (.iconst 2, 1) := by decide +kernel
theorem dX6_reason_79 : decode cX6_reason 79 = .ok (.iload_n 2, 1) := by decide +kernel
theorem dX6_reason_80 : decode cX6_reason 80 = .ok (.iload_n 3, 1) := by decide +kernel
theorem dX6_reason_81 : decode cX6_reason 81 = .ok (.iload 4, 2) := by decide +kernel
theorem dX6_reason_83 : decode cX6_reason 83 = .ok (.iload 6, 2) := by decide +kernel
theorem dX6_reason_85 : decode cX6_reason 85 = .ok (.invokevirtual 149, 3) := by decide +kernel
theorem dX6_reason_88 : decode cX6_reason 88 = .ok (.istore 7, 2) := by decide +kernel
theorem dX6_reason_90 : decode cX6_reason 90 = .ok (.aload_n 0, 1) := by decide +kernel
theorem dX6_reason_91 : decode cX6_reason 91 = .ok (.iload 7, 2) := by decide +kernel
theorem dX6_reason_93 : decode cX6_reason 93 = .ok (.ifCond .lt 7, 3) := by decide +kernel
theorem dX6_reason_96 : decode cX6_reason 96 = .ok (.iconst 4, 1) := by decide +kernel
theorem dX6_reason_97 : decode cX6_reason 97 = .ok (.goto 4, 3) := by decide +kernel
theorem dX6_reason_100 : decode cX6_reason 100 = .ok (.iconst 0, 1) := by decide +kernel
theorem dX6_reason_101 : decode cX6_reason 101 = .ok (.putfield 139, 3) := by decide +kernel
theorem dX6_reason_104 : decode cX6_reason 104 = .ok (.iload 7, 2) := by decide +kernel
theorem dX6_reason_106 : decode cX6_reason 106 = .ok (.ireturn, 1) := by decide +kernel
theorem dX6_isRange_0 : decode cX6_isRange 0 = .ok (.iload_n 1, 1) := by decide +kernel
theorem dX6_isRange_1 : decode cX6_isRange 1 = .ok (.iconst 0, 1) := by decide +kernel
theorem dX6_isRange_2 : decode cX6_isRange 2 = .ok (.sipush 999, 3) := by decide +kernel
theorem dX6_isRange_5 : decode cX6_isRange 5 = .ok (.invokestatic 74, 3) := by decide +kernel
theorem dX6_isRange_8 : decode cX6_isRange 8 = .ok (.ifCond .eq 43, 3) := by decide +kernel
theorem dX6_isRange_11 : decode cX6_isRange 11 = .ok (.iload_n 2, 1) := by decide +kernel
theorem dX6_isRange_12 : decode cX6_isRange 12 = .ok (.iconst (-1), 1) := by decide +kernel
theorem dX6_isRange_13 : decode cX6_isRange 13 = .ok (.ldc 84, 2) := by decide +kernel
theorem dX6_isRange_15 : decode cX6_isRange 15 = .ok (.invokestatic 74, 3) := by decide +kernel
theorem dX6_isRange_18 : decode cX6_isRange 18 = .ok (.ifCond .eq 33, 3) := by decide +kernel
theorem dX6_isRange_21 : decode cX6_isRange 21 = .ok (.iload_n 3, 1) := by decide +kernel
theorem dX6_isRange_22 : decode cX6_isRange 22 = .ok (.aload_n 0, 1) := by decide +kernel
theorem dX6_isRange_23 : decode cX6_isRange 23 = .ok (.getfield 78, 3) := by decide +kernel
theorem dX6_isRange_26 : decode cX6_isRange 26 = .ok (.ifCond .ne 7, 3) := by decide +kernel
theorem dX6_isRange_29 : decode cX6_isRange 29 = .ok (.iconst 0, 1) := by decide +kernel
theorem dX6_isRange_30 : decode cX6_isRange 30 = .ok (.goto 14, 3) := by decide +kernel
theorem dX6_isRange_33 : decode cX6_isRange 33 = .ok (.aload_n 0, 1) := by decide +kernel
theorem dX6_isRange_34 : decode cX6_isRange 34 = .ok (.getfield 43, 3) := by decide +kernel
theorem dX6_isRange_37 : decode cX6_isRange 37 = .ok (.aload_n 0, 1) := by decide +kernel
theorem dX6_isRange_38 : decode cX6_isRange 38 = .ok (.getfield 78, 3) := by decide +kernel
theorem dX6_isRange_41 : decode cX6_isRange 41 = .ok (.iconst 1, 1) := by decide +kernel
theorem dX6_isRange_42 : decode cX6_isRange 42 = .ok (.isub, 1) := by decide +kernel
theorem dX6_isRange_43 : decode cX6_isRange 43 = .ok (.iaload, 1) := by decide +kernel
theorem dX6_isRange_44 : decode cX6_isRange 44 = .ok (.if_icmp .lt 7, 3) := by decide +kernel
theorem dX6_isRange_47 : decode cX6_isRange 47 = .ok (.iconst 1, 1) := by decide +kernel
theorem dX6_isRange_48 : decode cX6_isRange 48 = .ok (.goto 4, 3) := by decide +kernel
theorem dX6_isRange_51 : decode cX6_isRange 51 = .ok (.iconst 0, 1) := by decide +kernel
theorem dX6_isRange_52 : decode cX6_isRange 52 = .ok (.ireturn, 1) := by decide +kernel
theorem dX6_isKnown_0 : decode cX6_isKnown 0 = .ok (.iload_n 0, 1) := by decide +kernel
theorem dX6_isKnown_1 : decode cX6_isKnown 1 = .ok (.invokestatic 86, 3) := by decide +kernel
theorem dX6_isKnown_4 : decode cX6_isKnown 4 = .ok (.ifCond .eq 17, 3) := by decide +kernel
theorem dX6_isKnown_7 : decode cX6_isKnown 7 = .ok (.iload_n 1, 1) := by decide +kernel
theorem dX6_isKnown_8 : decode cX6_isKnown 8 = .ok (.iconst (-1), 1) := by decide +kernel
theorem dX6_isKnown_9 : decode cX6_isKnown 9 = .ok (.bipush 7, 2) := by decide +kernel
theorem dX6_isKnown_11 : decode cX6_isKnown 11 = .ok (.invokestatic 74, 3) := by decide +kernel
theorem dX6_isKnown_14 : decode cX6_isKnown 14 = .ok (.ifCond .eq 7, 3) := by decide +kernel
theorem dX6_isKnown_17 : decode cX6_isKnown 17 = .ok (.iconst 1, 1) := by decide +kernel
theorem dX6_isKnown_18 : decode cX6_isKnown 18 = .ok (.goto 4, 3) := by decide +kernel
theorem dX6_isKnown_21 : decode cX6_isKnown 21 = .ok (.iconst 0, 1) := by decide +kernel
theorem dX6_isKnown_22 : decode cX6_isKnown 22 = .ok (.ireturn, 1) := by decide +kernel
theorem dX6_call_0 : decode cX6_call 0 = .ok (.aload_n 0, 1) := by decide +kernel
theorem dX6_call_1 : decode cX6_call 1 = .ok (.iload_n 2, 1) := by decide +kernel
theorem dX6_call_2 : decode cX6_call 2 = .ok (.iload 5, 2) := by decide +kernel
theorem dX6_call_4 : decode cX6_call 4 = .ok (.invokestatic 152, 3) := by decide +kernel
theorem dX6_call_7 : decode cX6_call 7 = .ok (.ifCond .ne 7, 3) := by decide +kernel
theorem dX6_call_10 : decode cX6_call 10 = .ok (.iconst 1, 1) := by decide +kernel
theorem dX6_call_11 : decode cX6_call 11 = .ok (.goto 4, 3) := by decide +kernel
theorem dX6_call_14 : decode cX6_call 14 = .ok (.iconst 0, 1) := by decide +kernel
theorem dX6_call_15 : decode cX6_call 15 = .ok (.aload_n 0, 1) := by decide +kernel
theorem dX6_call_16 : decode cX6_call 16 = .ok (.iload_n 1, 1) := by decide +kernel
theorem dX6_call_17 : decode cX6_call 17 = .ok (.iload_n 3, 1) := by decide +kernel
theorem dX6_call_18 : decode cX6_call 18 = .ok (.iload 6, 2) := by decide +kernel
theorem dX6_call_20 : decode cX6_call 20 = .ok (.invokevirtual 156, 3) := by decide +kernel
theorem dX6_call_23 : decode cX6_call 23 = .ok (.ifCond .ne 7, 3) := by decide +kernel
theorem dX6_call_26 : decode cX6_call 26 = .ok (.iconst 1, 1) := by decide +kernel
theorem dX6_call_27 : decode cX6_call 27 = .ok (.goto 4, 3) := by decide +kernel
theorem dX6_call_30 : decode cX6_call 30 = .ok (.iconst 0, 1) := by decide +kernel
theorem dX6_call_31 : decode cX6_call 31 = .ok (.aload_n 0, 1) := by decide +kernel
theorem dX6_call_32 : decode cX6_call 32 = .ok (.getfield 78, 3) := by decide +kernel
theorem dX6_call_35 : decode cX6_call 35 = .ok (.bipush 120, 2) := by decide +kernel
theorem dX6_call_37 : decode cX6_call 37 = .ok (.if_icmp .ne 7, 3) := by decide +kernel
theorem dX6_call_40 : decode cX6_call 40 = .ok (.iconst 1, 1) := by decide +kernel
theorem dX6_call_41 : decode cX6_call 41 = .ok (.goto 4, 3) := by decide +kernel
theorem dX6_call_44 : decode cX6_call 44 = .ok (.iconst 0, 1) := by decide +kernel
theorem dX6_call_45 : decode cX6_call 45 = .ok (.invokevirtual 90, 3) := by decide +kernel
theorem dX6_call_48 : decode cX6_call 48 = .ok (.ifCond .eq 5, 3) := by decide +kernel
theorem dX6_call_51 : decode cX6_call 51 = .ok (.iconst 0, 1) := by decide +kernel
theorem dX6_call_52 : decode cX6_call 52 = .ok (.ireturn, 1) := by decide +kernel
theorem dX6_call_53 : decode cX6_call 53 = .ok (.aload_n 0, 1) := by decide +kernel
theorem dX6_call_54 : decode cX6_call 54 = .ok (.iload_n 1, 1) := by decide +kernel
theorem dX6_call_55 : decode cX6_call 55 = .ok (.iload_n 2, 1) := by decide +kernel
theorem dX6_call_56 : decode cX6_call 56 = .ok (.iload_n 3, 1) := by decide +kernel
theorem dX6_call_57 : decode cX6_call 57 = .ok (.iload 4, 2) := by decide +kernel
theorem dX6_call_59 : decode cX6_call 59 = .ok (.iload 5, 2) := by decide +kernel
theorem dX6_call_61 : decode cX6_call 61 = .ok (.iload 6, 2) := by decide +kernel
theorem dX6_call_63 : decode cX6_call 63 = .ok (.invokevirtual 159, 3) := by decide +kernel
theorem dX6_call_66 : decode cX6_call 66 = .ok (.istore 7, 2) := by decide +kernel
theorem dX6_call_68 : decode cX6_call 68 = .ok (.aload_n 0, 1) := by decide +kernel
theorem dX6_call_69 : decode cX6_call 69 = .ok (.iconst 0, 1) := by decide +kernel
theorem dX6_call_70 : decode cX6_call 70 = .ok (.iconst 0, 1) := by decide +kernel
theorem dX6_call_71 : decode cX6_call 71 = .ok (.iload 7, 2) := by decide +kernel
theorem dX6_call_73 : decode cX6_call 73 = .ok (.ifCond .ge 16, 3) := by decide +kernel
theorem dX6_call_76 : decode cX6_call 76 = .ok (.aload_n 0, 1) := by decide +kernel
theorem dX6_call_77 : decode cX6_call 77 = .ok (.getfield 81, 3) := by decide +kernel
theorem dX6_call_80 : decode cX6_call 80 = .ok (.bipush 60, 2) := by decide +kernel
theorem dX6_call_82 : decode cX6_call 82 = .ok (.if_icmp .ne 7, 3) := by decide +kernel
theorem dX6_call_85 : decode cX6_call 85 = .ok (.iconst 1, 1) := by decide +kernel
theorem dX6_call_86 : decode cX6_call 86 = .ok (.goto 4, 3) := by decide +kernel
theorem dX6_call_89 : decode cX6_call 89 = .ok (.iconst 0, 1) := by decide +kernel
theorem dX6_call_90 : decode cX6_call 90 = .ok (.invokevirtual 90, 3) := by decide +kernel
theorem dX6_call_93 : decode cX6_call 93 = .ok (.ifCond .eq 5, 3) := by decide +kernel
theorem dX6_call_96 : decode cX6_call 96 = .ok (.iconst 0, 1) := by decide +kernel
theorem dX6_call_97 : decode cX6_call 97 = .ok (.ireturn, 1) := by decide +kernel
theorem dX6_call_98 : decode cX6_call 98 = .ok (.aload_n 0, 1) := by decide +kernel
theorem dX6_call_99 : decode cX6_call 99 = .ok (.getfield 78, 3) := by decide +kernel
theorem dX6_call_102 : decode cX6_call 102 = .ok (.istore 8, 2) := by decide +kernel
theorem dX6_call_104 : decode cX6_call 104 = .ok (.aload_n 0, 1) := by decide +kernel
theorem dX6_call_105 : decode cX6_call 105 = .ok (.getfield 31, 3) := by decide +kernel
theorem dX6_call_108 : decode cX6_call 108 = .ok (.iload 8, 2) := by decide +kernel
theorem dX6_call_110 : decode cX6_call 110 = .ok (.iload_n 1, 1) := by decide +kernel
theorem dX6_call_111 : decode cX6_call 111 = .ok (.iastore, 1) := by decide +kernel
theorem dX6_call_112 : decode cX6_call 112 = .ok (.aload_n 0, 1) := by decide +kernel
theorem dX6_call_113 : decode cX6_call 113 = .ok (.getfield 34, 3) := by decide +kernel
theorem dX6_call_116 : decode cX6_call 116 = .ok (.iload 8, 2) := by decide +kernel
theorem dX6_call_118 : decode cX6_call 118 = .ok (.iload_n 2, 1) := by decide +kernel
theorem dX6_call_119 : decode cX6_call 119 = .ok (.iastore, 1) := by decide +kernel
theorem dX6_call_120 : decode cX6_call 120 = .ok (.aload_n 0, 1) := by decide +kernel
theorem dX6_call_121 : decode cX6_call 121 = .ok (.getfield 37, 3) := by decide +kernel
theorem dX6_call_124 : decode cX6_call 124 = .ok (.iload 8, 2) := by decide +kernel
theorem dX6_call_126 : decode cX6_call 126 = .ok (.iload_n 3, 1) := by decide +kernel
theorem dX6_call_127 : decode cX6_call 127 = .ok (.iastore, 1) := by decide +kernel
theorem dX6_call_128 : decode cX6_call 128 = .ok (.aload_n 0, 1) := by decide +kernel
theorem dX6_call_129 : decode cX6_call 129 = .ok (.getfield 40, 3) := by decide +kernel
theorem dX6_call_132 : decode cX6_call 132 = .ok (.iload 8, 2) := by decide +kernel
theorem dX6_call_134 : decode cX6_call 134 = .ok (.iload 4, 2) := by decide +kernel
theorem dX6_call_136 : decode cX6_call 136 = .ok (.iastore, 1) := by decide +kernel
theorem dX6_call_137 : decode cX6_call 137 = .ok (.aload_n 0, 1) := by decide +kernel
theorem dX6_call_138 : decode cX6_call 138 = .ok (.getfield 43, 3) := by decide +kernel
theorem dX6_call_141 : decode cX6_call 141 = .ok (.iload 8, 2) := by decide +kernel
theorem dX6_call_143 : decode cX6_call 143 = .ok (.iload 6, 2) := by decide +kernel
theorem dX6_call_145 : decode cX6_call 145 = .ok (.iastore, 1) := by decide +kernel
theorem dX6_call_146 : decode cX6_call 146 = .ok (.aload_n 0, 1) := by decide +kernel
theorem dX6_call_147 : decode cX6_call 147 = .ok (.getfield 52, 3) := by decide +kernel
theorem dX6_call_150 : decode cX6_call 150 = .ok (.iload 8, 2) := by decide +kernel
theorem dX6_call_152 : decode cX6_call 152 = .ok (.iconst 0, 1) := by decide +kernel
theorem dX6_call_153 : decode cX6_call 153 = .ok (.iastore, 1) := by decide +kernel
theorem dX6_call_154 : decode cX6_call 154 = .ok (.aload_n 0, 1) := by decide +kernel
theorem dX6_call_155 : decode cX6_call 155 = .ok (.getfield 49, 3) := by decide +kernel
theorem dX6_call_158 : decode cX6_call 158 = .ok (.iload 8, 2) := by decide +kernel
theorem dX6_call_160 : decode cX6_call 160 = .ok (.iload 7, 2) := by decide +kernel
theorem dX6_call_162 : decode cX6_call 162 = .ok (.iastore, 1) := by decide +kernel
theorem dX6_call_163 : decode cX6_call 163 = .ok (.aload_n 0, 1) := by decide +kernel
theorem dX6_call_164 : decode cX6_call 164 = .ok (.getfield 55, 3) := by decide +kernel
theorem dX6_call_167 : decode cX6_call 167 = .ok (.iload 8, 2) := by decide +kernel
theorem dX6_call_169 : decode cX6_call 169 = .ok (.aload_n 0, 1) := by decide +kernel
theorem dX6_call_170 : decode cX6_call 170 = .ok (.getfield 139, 3) := by decide +kernel
theorem dX6_call_173 : decode cX6_call 173 = .ok (.iastore, 1) := by decide +kernel
theorem dX6_call_174 : decode cX6_call 174 = .ok (.aload_n 0, 1) := by decide +kernel
theorem dX6_call_175 : decode cX6_call 175 = .ok (.getfield 46, 3) := by decide +kernel
theorem dX6_call_178 : decode cX6_call 178 = .ok (.iload 8, 2) := by decide +kernel
theorem dX6_call_180 : decode cX6_call 180 = .ok (.iload 7, 2) := by decide +kernel
theorem dX6_call_182 : decode cX6_call 182 = .ok (.ifCond .ge 10, 3) := by decide +kernel
theorem dX6_call_185 : decode cX6_call 185 = .ok (.aload_n 0, 1) := by decide +kernel
theorem dX6_call_186 : decode cX6_call 186 = .ok (.invokevirtual 163, 3) := by decide +kernel
theorem dX6_call_189 : decode cX6_call 189 = .ok (.goto 10, 3) := by decide +kernel
theorem dX6_call_192 : decode cX6_call 192 = .ok (.aload_n 0, 1) := by decide +kernel
theorem dX6_call_193 : decode cX6_call 193 = .ok (.getfield 46, 3) := by decide +kernel
theorem dX6_call_196 : decode cX6_call 196 = .ok (.iload 7, 2) := by decide +kernel
theorem dX6_call_198 : decode cX6_call 198 = .ok (.iaload, 1) := by decide +kernel
theorem dX6_call_199 : decode cX6_call 199 = .ok (.iastore, 1) := by decide +kernel
theorem dX6_call_200 : decode cX6_call 200 = .ok (.aload_n 0, 1) := by decide +kernel
theorem dX6_call_201 : decode cX6_call 201 = .ok (.dup, 1) := by decide +kernel
theorem dX6_call_202 : decode cX6_call 202 = .ok (.getfield 78, 3) := by decide +kernel
theorem dX6_call_205 : decode cX6_call 205 = .ok (.iconst 1, 1) := by decide +kernel
theorem dX6_call_206 : decode cX6_call 206 = .ok (.iadd, 1) := by decide +kernel
theorem dX6_call_207 : decode cX6_call 207 = .ok (.putfield 78, 3) := by decide +kernel
theorem dX6_call_210 : decode cX6_call 210 = .ok (.iload 8, 2) := by decide +kernel
theorem dX6_call_212 : decode cX6_call 212 = .ok (.ireturn, 1) := by decide +kernel
theorem dX6_newEvent_0 : decode cX6_newEvent 0 = .ok (.aload_n 0, 1) := by decide +kernel
theorem dX6_newEvent_1 : decode cX6_newEvent 1 = .ok (.getfield 58, 3) := by decide +kernel
theorem dX6_newEvent_4 : decode cX6_newEvent 4 = .ok (.aload_n 0, 1) := by decide +kernel
theorem dX6_newEvent_5 : decode cX6_newEvent 5 = .ok (.getfield 81, 3) := by decide +kernel
theorem dX6_newEvent_8 : decode cX6_newEvent 8 = .ok (.iconst 0, 1) := by decide +kernel
theorem dX6_newEvent_9 : decode cX6_newEvent 9 = .ok (.iastore, 1) := by decide +kernel
theorem dX6_newEvent_10 : decode cX6_newEvent 10 = .ok (.aload_n 0, 1) := by decide +kernel
theorem dX6_newEvent_11 : decode cX6_newEvent 11 = .ok (.getfield 61, 3) := by decide +kernel
theorem dX6_newEvent_14 : decode cX6_newEvent 14 = .ok (.aload_n 0, 1) := by decide +kernel
theorem dX6_newEvent_15 : decode cX6_newEvent 15 = .ok (.getfield 81, 3) := by decide +kernel
theorem dX6_newEvent_18 : decode cX6_newEvent 18 = .ok (.iconst (-1), 1) := by decide +kernel
theorem dX6_newEvent_19 : decode cX6_newEvent 19 = .ok (.iastore, 1) := by decide +kernel
theorem dX6_newEvent_20 : decode cX6_newEvent 20 = .ok (.aload_n 0, 1) := by decide +kernel
theorem dX6_newEvent_21 : decode cX6_newEvent 21 = .ok (.dup, 1) := by decide +kernel
theorem dX6_newEvent_22 : decode cX6_newEvent 22 = .ok (.getfield 81, 3) := by decide +kernel
theorem dX6_newEvent_25 : decode cX6_newEvent 25 = .ok (.iconst 1, 1) := by decide +kernel
theorem dX6_newEvent_26 : decode cX6_newEvent 26 = .ok (.iadd, 1) := by decide +kernel
theorem dX6_newEvent_27 : decode cX6_newEvent 27 = .ok (.putfield 81, 3) := by decide +kernel
theorem dX6_newEvent_30 : decode cX6_newEvent 30 = .ok (.aload_n 0, 1) := by decide +kernel
theorem dX6_newEvent_31 : decode cX6_newEvent 31 = .ok (.getfield 81, 3) := by decide +kernel
theorem dX6_newEvent_34 : decode cX6_newEvent 34 = .ok (.iconst 1, 1) := by decide +kernel
theorem dX6_newEvent_35 : decode cX6_newEvent 35 = .ok (.isub, 1) := by decide +kernel
theorem dX6_newEvent_36 : decode cX6_newEvent 36 = .ok (.ireturn, 1) := by decide +kernel
theorem dX6_reasonFor_0 : decode cX6_reasonFor 0 = .ok (.aload_n 0, 1) := by decide +kernel
theorem dX6_reasonFor_1 : decode cX6_reasonFor 1 = .ok (.iload_n 2, 1) := by decide +kernel
theorem dX6_reasonFor_2 : decode cX6_reasonFor 2 = .ok (.iload 5, 2) := by decide +kernel
theorem dX6_reasonFor_4 : decode cX6_reasonFor 4 = .ok (.invokestatic 152, 3) := by decide +kernel
theorem dX6_reasonFor_7 : decode cX6_reasonFor 7 = .ok (.ifCond .ne 7, 3) := by decide +kernel
theorem dX6_reasonFor_10 : decode cX6_reasonFor 10 = .ok (.iconst 1, 1) := by decide +kernel
theorem dX6_reasonFor_11 : decode cX6_reasonFor 11 = .ok (.goto 4, 3) := by decide +kernel
theorem dX6_reasonFor_14 : decode cX6_reasonFor 14 = .ok (.iconst 0, 1) := by decide +kernel
theorem dX6_reasonFor_15 : decode cX6_reasonFor 15 = .ok (.aload_n 0, 1) := by decide +kernel
theorem dX6_reasonFor_16 : decode cX6_reasonFor 16 = .ok (.iload_n 1, 1) := by decide +kernel
theorem dX6_reasonFor_17 : decode cX6_reasonFor 17 = .ok (.iload_n 3, 1) := by decide +kernel
theorem dX6_reasonFor_18 : decode cX6_reasonFor 18 = .ok (.iload 6, 2) := by decide +kernel
theorem dX6_reasonFor_20 : decode cX6_reasonFor 20 = .ok (.invokevirtual 156, 3) := by decide +kernel
theorem dX6_reasonFor_23 : decode cX6_reasonFor 23 = .ok (.ifCond .ne 7, 3) := by decide +kernel
theorem dX6_reasonFor_26 : decode cX6_reasonFor 26 = .ok (.iconst 1, 1) := by decide +kernel
theorem dX6_reasonFor_27 : decode cX6_reasonFor 27 = .ok (.goto 4, 3) := by decide +kernel
theorem dX6_reasonFor_30 : decode cX6_reasonFor 30 = .ok (.iconst 0, 1) := by decide +kernel
theorem dX6_reasonFor_31 : decode cX6_reasonFor 31 = .ok (.iconst 0, 1) := by decide +kernel
theorem dX6_reasonFor_32 : decode cX6_reasonFor 32 = .ok (.invokevirtual 90, 3) := by decide +kernel
theorem dX6_reasonFor_35 : decode cX6_reasonFor 35 = .ok (.ifCond .eq 5, 3) := by decide +kernel
theorem dX6_reasonFor_38 : decode cX6_reasonFor 38 = .ok (.iconst 0, 1) := by decide +kernel
theorem dX6_reasonFor_39 : decode cX6_reasonFor 39 = .ok (.ireturn, 1) := by decide +kernel
theorem dX6_reasonFor_40 : decode cX6_reasonFor 40 = .ok (.aload_n 0, 1) := by decide +kernel
theorem dX6_reasonFor_41 : decode cX6_reasonFor 41 = .ok (.iload_n 1, 1) := by decide +kernel
end
section
theorem dX6_reasonFor_42 : decode cX6_reasonFor 42 = .ok (.iload_n 2, 1) := by decide +kernel
theorem dX6_reasonFor_43 : decode cX6_reasonFor 43 = .ok (.iload_n 3, 1) := by decide +kernel
theorem dX6_reasonFor_44 : decode cX6_reasonFor 44 = .ok (.iload 4, 2) := by decide +kernel
theorem dX6_reasonFor_46 : decode cX6_reasonFor 46 = .ok (.iload 5, 2) := by decide +kernel
theorem dX6_reasonFor_48 : decode cX6_reasonFor 48 = .ok (.iload 6, 2) := by decide +kernel
theorem dX6_reasonFor_50 : decode cX6_reasonFor 50 = .ok (.invokevirtual 159, 3) := by decide +kernel
theorem dX6_reasonFor_53 : decode cX6_reasonFor 53 = .ok (.ireturn, 1) := by decide +kernel
theorem dX6_mark_0 : decode cX6_mark 0 = .ok (.aload_n 0, 1) := by decide +kernel
theorem dX6_mark_1 : decode cX6_mark 1 = .ok (.aload_n 0, 1) := by decide +kernel
theorem dX6_mark_2 : decode cX6_mark 2 = .ok (.iload_n 1, 1) := by decide +kernel
theorem dX6_mark_3 : decode cX6_mark 3 = .ok (.invokevirtual 167, 3) := by decide +kernel
theorem dX6_mark_6 : decode cX6_mark 6 = .ok (.ifCond .ne 7, 3) := by decide +kernel
theorem dX6_mark_9 : decode cX6_mark 9 = .ok (.iconst 1, 1) := by decide +kernel
theorem dX6_mark_10 : decode cX6_mark 10 = .ok (.goto 4, 3) := by decide +kernel
theorem dX6_mark_13 : decode cX6_mark 13 = .ok (.iconst 0, 1) := by decide +kernel
theorem dX6_mark_14 : decode cX6_mark 14 = .ok (.iload_n 2, 1) := by decide +kernel
theorem dX6_mark_15 : decode cX6_mark 15 = .ok (.iconst 0, 1) := by decide +kernel
theorem dX6_mark_16 : decode cX6_mark 16 = .ok (.bipush 7, 2) := by decide +kernel
theorem dX6_mark_18 : decode cX6_mark 18 = .ok (.invokestatic 74, 3) := by decide +kernel
theorem dX6_mark_21 : decode cX6_mark 21 = .ok (.ifCond .ne 7, 3) := by decide +kernel
theorem dX6_mark_24 : decode cX6_mark 24 = .ok (.iconst 1, 1) := by decide +kernel
theorem dX6_mark_25 : decode cX6_mark 25 = .ok (.goto 4, 3) := by decide +kernel
theorem dX6_mark_28 : decode cX6_mark 28 = .ok (.iconst 0, 1) := by decide +kernel
theorem dX6_mark_29 : decode cX6_mark 29 = .ok (.iconst 0, 1) := by decide +kernel
theorem dX6_mark_30 : decode cX6_mark 30 = .ok (.invokevirtual 90, 3) := by decide +kernel
theorem dX6_mark_33 : decode cX6_mark 33 = .ok (.ifCond .eq 4, 3) := by decide +kernel
theorem dX6_mark_36 : decode cX6_mark 36 = .ok (.return_, 1) := by decide +kernel
theorem dX6_mark_37 : decode cX6_mark 37 = .ok (.aload_n 0, 1) := by decide +kernel
theorem dX6_mark_38 : decode cX6_mark 38 = .ok (.getfield 52, 3) := by decide +kernel
theorem dX6_mark_41 : decode cX6_mark 41 = .ok (.iload_n 1, 1) := by decide +kernel
theorem dX6_mark_42 : decode cX6_mark 42 = .ok (.iload_n 2, 1) := by decide +kernel
theorem dX6_mark_43 : decode cX6_mark 43 = .ok (.iastore, 1) := by decide +kernel
theorem dX6_mark_44 : decode cX6_mark 44 = .ok (.return_, 1) := by decide +kernel
theorem dX6_split_0 : decode cX6_split 0 = .ok (.aload_n 0, 1) := by decide +kernel
theorem dX6_split_1 : decode cX6_split 1 = .ok (.iload_n 1, 1) := by decide +kernel
theorem dX6_split_2 : decode cX6_split 2 = .ok (.invokevirtual 167, 3) := by decide +kernel
theorem dX6_split_5 : decode cX6_split 5 = .ok (.istore_n 2, 1) := by decide +kernel
theorem dX6_split_6 : decode cX6_split 6 = .ok (.iload_n 2, 1) := by decide +kernel
theorem dX6_split_7 : decode cX6_split 7 = .ok (.ifCond .eq 24, 3) := by decide +kernel
theorem dX6_split_10 : decode cX6_split 10 = .ok (.aload_n 0, 1) := by decide +kernel
theorem dX6_split_11 : decode cX6_split 11 = .ok (.getfield 49, 3) := by decide +kernel
theorem dX6_split_14 : decode cX6_split 14 = .ok (.iload_n 1, 1) := by decide +kernel
theorem dX6_split_15 : decode cX6_split 15 = .ok (.iaload, 1) := by decide +kernel
theorem dX6_split_16 : decode cX6_split 16 = .ok (.ifCond .lt 15, 3) := by decide +kernel
theorem dX6_split_19 : decode cX6_split 19 = .ok (.aload_n 0, 1) := by decide +kernel
theorem dX6_split_20 : decode cX6_split 20 = .ok (.iload_n 1, 1) := by decide +kernel
theorem dX6_split_21 : decode cX6_split 21 = .ok (.invokevirtual 118, 3) := by decide +kernel
theorem dX6_split_24 : decode cX6_split 24 = .ok (.ifCond .eq 7, 3) := by decide +kernel
theorem dX6_split_27 : decode cX6_split 27 = .ok (.iconst 1, 1) := by decide +kernel
theorem dX6_split_28 : decode cX6_split 28 = .ok (.goto 4, 3) := by decide +kernel
theorem dX6_split_31 : decode cX6_split 31 = .ok (.iconst 0, 1) := by decide +kernel
theorem dX6_split_32 : decode cX6_split 32 = .ok (.istore_n 3, 1) := by decide +kernel
theorem dX6_split_33 : decode cX6_split 33 = .ok (.aload_n 0, 1) := by decide +kernel
theorem dX6_split_34 : decode cX6_split 34 = .ok (.iload_n 2, 1) := by decide +kernel
theorem dX6_split_35 : decode cX6_split 35 = .ok (.ifCond .ne 7, 3) := by decide +kernel
theorem dX6_split_38 : decode cX6_split 38 = .ok (.iconst 1, 1) := by decide +kernel
theorem dX6_split_39 : decode cX6_split 39 = .ok (.goto 4, 3) := by decide +kernel
theorem dX6_split_42 : decode cX6_split 42 = .ok (.iconst 0, 1) := by decide +kernel
theorem dX6_split_43 : decode cX6_split 43 = .ok (.iload_n 3, 1) := by decide +kernel
theorem dX6_split_44 : decode cX6_split 44 = .ok (.ifCond .ne 7, 3) := by decide +kernel
theorem dX6_split_47 : decode cX6_split 47 = .ok (.iconst 1, 1) := by decide +kernel
theorem dX6_split_48 : decode cX6_split 48 = .ok (.goto 4, 3) := by decide +kernel
theorem dX6_split_51 : decode cX6_split 51 = .ok (.iconst 0, 1) := by decide +kernel
theorem dX6_split_52 : decode cX6_split 52 = .ok (.aload_n 0, 1) := by decide +kernel
theorem dX6_split_53 : decode cX6_split 53 = .ok (.getfield 81, 3) := by decide +kernel
theorem dX6_split_56 : decode cX6_split 56 = .ok (.bipush 60, 2) := by decide +kernel
theorem dX6_split_58 : decode cX6_split 58 = .ok (.if_icmp .ne 7, 3) := by decide +kernel
theorem dX6_split_61 : decode cX6_split 61 = .ok (.iconst 1, 1) := by decide +kernel
theorem dX6_split_62 : decode cX6_split 62 = .ok (.goto 4, 3) := by decide +kernel
theorem dX6_split_65 : decode cX6_split 65 = .ok (.iconst 0, 1) := by decide +kernel
theorem dX6_split_66 : decode cX6_split 66 = .ok (.invokevirtual 90, 3) := by decide +kernel
theorem dX6_split_69 : decode cX6_split 69 = .ok (.ifCond .eq 5, 3) := by decide +kernel
theorem dX6_split_72 : decode cX6_split 72 = .ok (.iconst 0, 1) := by decide +kernel
theorem dX6_split_73 : decode cX6_split 73 = .ok (.ireturn, 1) := by decide +kernel
theorem dX6_split_74 : decode cX6_split 74 = .ok (.aload_n 0, 1) := by decide +kernel
theorem dX6_split_75 : decode cX6_split 75 = .ok (.invokevirtual 163, 3) := by decide +kernel
theorem dX6_split_78 : decode cX6_split 78 = .ok (.istore 4, 2) := by decide +kernel
theorem dX6_split_80 : decode cX6_split 80 = .ok (.aload_n 0, 1) := by decide +kernel
theorem dX6_split_81 : decode cX6_split 81 = .ok (.getfield 49, 3) := by decide +kernel
theorem dX6_split_84 : decode cX6_split 84 = .ok (.iload_n 1, 1) := by decide +kernel
theorem dX6_split_85 : decode cX6_split 85 = .ok (.iconst (-1), 1) := by decide +kernel
theorem dX6_split_86 : decode cX6_split 86 = .ok (.iastore, 1) := by decide +kernel
theorem dX6_split_87 : decode cX6_split 87 = .ok (.aload_n 0, 1) := by decide +kernel
theorem dX6_split_88 : decode cX6_split 88 = .ok (.getfield 55, 3) := by decide +kernel
theorem dX6_split_91 : decode cX6_split 91 = .ok (.iload_n 1, 1) := by decide +kernel
theorem dX6_split_92 : decode cX6_split 92 = .ok (.iconst 0, 1) := by decide +kernel
theorem dX6_split_93 : decode cX6_split 93 = .ok (.iastore, 1) := by decide +kernel
theorem dX6_split_94 : decode cX6_split 94 = .ok (.aload_n 0, 1) := by decide +kernel
theorem dX6_split_95 : decode cX6_split 95 = .ok (.getfield 46, 3) := by decide +kernel
theorem dX6_split_98 : decode cX6_split 98 = .ok (.iload_n 1, 1) := by decide +kernel
theorem dX6_split_99 : decode cX6_split 99 = .ok (.iaload, 1) := by decide +kernel
theorem dX6_split_100 : decode cX6_split 100 = .ok (.istore 5, 2) := by decide +kernel
theorem dX6_split_102 : decode cX6_split 102 = .ok (.aload_n 0, 1) := by decide +kernel
theorem dX6_split_103 : decode cX6_split 103 = .ok (.getfield 46, 3) := by decide +kernel
theorem dX6_split_106 : decode cX6_split 106 = .ok (.iload_n 1, 1) := by decide +kernel
theorem dX6_split_107 : decode cX6_split 107 = .ok (.iload 4, 2) := by decide +kernel
theorem dX6_split_109 : decode cX6_split 109 = .ok (.iastore, 1) := by decide +kernel
theorem dX6_split_110 : decode cX6_split 110 = .ok (.iconst 1, 1) := by decide +kernel
theorem dX6_split_111 : decode cX6_split 111 = .ok (.istore 6, 2) := by decide +kernel
theorem dX6_split_113 : decode cX6_split 113 = .ok (.iload 6, 2) := by decide +kernel
theorem dX6_split_115 : decode cX6_split 115 = .ok (.ifCond .eq 78, 3) := by decide +kernel
theorem dX6_split_118 : decode cX6_split 118 = .ok (.iconst 0, 1) := by decide +kernel
theorem dX6_split_119 : decode cX6_split 119 = .ok (.istore 6, 2) := by decide +kernel
theorem dX6_split_121 : decode cX6_split 121 = .ok (.iconst 0, 1) := by decide +kernel
theorem dX6_split_122 : decode cX6_split 122 = .ok (.istore 7, 2) := by decide +kernel
theorem dX6_split_124 : decode cX6_split 124 = .ok (.iload 7, 2) := by decide +kernel
theorem dX6_split_126 : decode cX6_split 126 = .ok (.aload_n 0, 1) := by decide +kernel
theorem dX6_split_127 : decode cX6_split 127 = .ok (.getfield 78, 3) := by decide +kernel
theorem dX6_split_130 : decode cX6_split 130 = .ok (.if_icmp .ge 60, 3) := by decide +kernel
theorem dX6_split_133 : decode cX6_split 133 = .ok (.aload_n 0, 1) := by decide +kernel
theorem dX6_split_134 : decode cX6_split 134 = .ok (.getfield 46, 3) := by decide +kernel
theorem dX6_split_137 : decode cX6_split 137 = .ok (.iload 7, 2) := by decide +kernel
theorem dX6_split_139 : decode cX6_split 139 = .ok (.iaload, 1) := by decide +kernel
theorem dX6_split_140 : decode cX6_split 140 = .ok (.iload 5, 2) := by decide +kernel
theorem dX6_split_142 : decode cX6_split 142 = .ok (.if_icmp .ne 42, 3) := by decide +kernel
theorem dX6_split_145 : decode cX6_split 145 = .ok (.aload_n 0, 1) := by decide +kernel
theorem dX6_split_146 : decode cX6_split 146 = .ok (.getfield 49, 3) := by decide +kernel
theorem dX6_split_149 : decode cX6_split 149 = .ok (.iload 7, 2) := by decide +kernel
theorem dX6_split_151 : decode cX6_split 151 = .ok (.iaload, 1) := by decide +kernel
theorem dX6_split_152 : decode cX6_split 152 = .ok (.ifCond .lt 32, 3) := by decide +kernel
theorem dX6_split_155 : decode cX6_split 155 = .ok (.aload_n 0, 1) := by decide +kernel
theorem dX6_split_156 : decode cX6_split 156 = .ok (.getfield 46, 3) := by decide +kernel
theorem dX6_split_159 : decode cX6_split 159 = .ok (.aload_n 0, 1) := by decide +kernel
theorem dX6_split_160 : decode cX6_split 160 = .ok (.getfield 49, 3) := by decide +kernel
theorem dX6_split_163 : decode cX6_split 163 = .ok (.iload 7, 2) := by decide +kernel
theorem dX6_split_165 : decode cX6_split 165 = .ok (.iaload, 1) := by decide +kernel
theorem dX6_split_166 : decode cX6_split 166 = .ok (.iaload, 1) := by decide +kernel
theorem dX6_split_167 : decode cX6_split 167 = .ok (.iload 4, 2) := by decide +kernel
theorem dX6_split_169 : decode cX6_split 169 = .ok (.if_icmp .ne 15, 3) := by decide +kernel
theorem dX6_split_172 : decode cX6_split 172 = .ok (.aload_n 0, 1) := by decide +kernel
theorem dX6_split_173 : decode cX6_split 173 = .ok (.getfield 46, 3) := by decide +kernel
theorem dX6_split_176 : decode cX6_split 176 = .ok (.iload 7, 2) := by decide +kernel
theorem dX6_split_178 : decode cX6_split 178 = .ok (.iload 4, 2) := by decide +kernel
theorem dX6_split_180 : decode cX6_split 180 = .ok (.iastore, 1) := by decide +kernel
theorem dX6_split_181 : decode cX6_split 181 = .ok (.iconst 1, 1) := by decide +kernel
theorem dX6_split_182 : decode cX6_split 182 = .ok (.istore 6, 2) := by decide +kernel
theorem dX6_split_184 : decode cX6_split 184 = .ok (.iinc 7 1, 3) := by decide +kernel
theorem dX6_split_187 : decode cX6_split 187 = .ok (.goto (-63), 3) := by decide +kernel
theorem dX6_split_190 : decode cX6_split 190 = .ok (.goto (-77), 3) := by decide +kernel
theorem dX6_split_193 : decode cX6_split 193 = .ok (.iload 4, 2) := by decide +kernel
theorem dX6_split_195 : decode cX6_split 195 = .ok (.ireturn, 1) := by decide +kernel
theorem dX6_size_0 : decode cX6_size 0 = .ok (.iconst 0, 1) := by decide +kernel
theorem dX6_size_1 : decode cX6_size 1 = .ok (.istore_n 2, 1) := by decide +kernel
theorem dX6_size_2 : decode cX6_size 2 = .ok (.iconst 0, 1) := by decide +kernel
theorem dX6_size_3 : decode cX6_size 3 = .ok (.istore_n 3, 1) := by decide +kernel
theorem dX6_size_4 : decode cX6_size 4 = .ok (.iload_n 3, 1) := by decide +kernel
theorem dX6_size_5 : decode cX6_size 5 = .ok (.aload_n 0, 1) := by decide +kernel
theorem dX6_size_6 : decode cX6_size 6 = .ok (.getfield 78, 3) := by decide +kernel
theorem dX6_size_9 : decode cX6_size 9 = .ok (.if_icmp .ge 27, 3) := by decide +kernel
theorem dX6_size_12 : decode cX6_size 12 = .ok (.iload_n 2, 1) := by decide +kernel
theorem dX6_size_13 : decode cX6_size 13 = .ok (.aload_n 0, 1) := by decide +kernel
theorem dX6_size_14 : decode cX6_size 14 = .ok (.getfield 46, 3) := by decide +kernel
theorem dX6_size_17 : decode cX6_size 17 = .ok (.iload_n 3, 1) := by decide +kernel
theorem dX6_size_18 : decode cX6_size 18 = .ok (.iaload, 1) := by decide +kernel
theorem dX6_size_19 : decode cX6_size 19 = .ok (.iload_n 1, 1) := by decide +kernel
theorem dX6_size_20 : decode cX6_size 20 = .ok (.if_icmp .ne 7, 3) := by decide +kernel
theorem dX6_size_23 : decode cX6_size 23 = .ok (.iconst 1, 1) := by decide +kernel
theorem dX6_size_24 : decode cX6_size 24 = .ok (.goto 4, 3) := by decide +kernel
theorem dX6_size_27 : decode cX6_size 27 = .ok (.iconst 0, 1) := by decide +kernel
theorem dX6_size_28 : decode cX6_size 28 = .ok (.iadd, 1) := by decide +kernel
theorem dX6_size_29 : decode cX6_size 29 = .ok (.istore_n 2, 1) := by decide +kernel
theorem dX6_size_30 : decode cX6_size 30 = .ok (.iinc 3 1, 3) := by decide +kernel
theorem dX6_size_33 : decode cX6_size 33 = .ok (.goto (-29), 3) := by decide +kernel
theorem dX6_size_36 : decode cX6_size 36 = .ok (.iload_n 2, 1) := by decide +kernel
theorem dX6_size_37 : decode cX6_size 37 = .ok (.ireturn, 1) := by decide +kernel
theorem dX6_merge_0 : decode cX6_merge 0 = .ok (.aload_n 0, 1) := by decide +kernel
theorem dX6_merge_1 : decode cX6_merge 1 = .ok (.iload_n 1, 1) := by decide +kernel
theorem dX6_merge_2 : decode cX6_merge 2 = .ok (.invokevirtual 170, 3) := by decide +kernel
theorem dX6_merge_5 : decode cX6_merge 5 = .ok (.ifCond .eq 15, 3) := by decide +kernel
theorem dX6_merge_8 : decode cX6_merge 8 = .ok (.aload_n 0, 1) := by decide +kernel
theorem dX6_merge_9 : decode cX6_merge 9 = .ok (.iload_n 2, 1) := by decide +kernel
theorem dX6_merge_10 : decode cX6_merge 10 = .ok (.invokevirtual 167, 3) := by decide +kernel
theorem dX6_merge_13 : decode cX6_merge 13 = .ok (.ifCond .eq 7, 3) := by decide +kernel
theorem dX6_merge_16 : decode cX6_merge 16 = .ok (.iconst 1, 1) := by decide +kernel
theorem dX6_merge_17 : decode cX6_merge 17 = .ok (.goto 4, 3) := by decide +kernel
theorem dX6_merge_20 : decode cX6_merge 20 = .ok (.iconst 0, 1) := by decide +kernel
theorem dX6_merge_21 : decode cX6_merge 21 = .ok (.istore_n 3, 1) := by decide +kernel
theorem dX6_merge_22 : decode cX6_merge 22 = .ok (.iload_n 3, 1) := by decide +kernel
theorem dX6_merge_23 : decode cX6_merge 23 = .ok (.ifCond .eq 34, 3) := by decide +kernel
theorem dX6_merge_26 : decode cX6_merge 26 = .ok (.aload_n 0, 1) := by decide +kernel
theorem dX6_merge_27 : decode cX6_merge 27 = .ok (.getfield 58, 3) := by decide +kernel
theorem dX6_merge_30 : decode cX6_merge 30 = .ok (.iload_n 1, 1) := by decide +kernel
theorem dX6_merge_31 : decode cX6_merge 31 = .ok (.iaload, 1) := by decide +kernel
theorem dX6_merge_32 : decode cX6_merge 32 = .ok (.ifCond .ne 25, 3) := by decide +kernel
theorem dX6_merge_35 : decode cX6_merge 35 = .ok (.aload_n 0, 1) := by decide +kernel
theorem dX6_merge_36 : decode cX6_merge 36 = .ok (.iload_n 2, 1) := by decide +kernel
theorem dX6_merge_37 : decode cX6_merge 37 = .ok (.invokevirtual 118, 3) := by decide +kernel
theorem dX6_merge_40 : decode cX6_merge 40 = .ok (.ifCond .eq 17, 3) := by decide +kernel
theorem dX6_merge_43 : decode cX6_merge 43 = .ok (.aload_n 0, 1) := by decide +kernel
theorem dX6_merge_44 : decode cX6_merge 44 = .ok (.getfield 46, 3) := by decide +kernel
theorem dX6_merge_47 : decode cX6_merge 47 = .ok (.iload_n 2, 1) := by decide +kernel
theorem dX6_merge_48 : decode cX6_merge 48 = .ok (.iaload, 1) := by decide +kernel
theorem dX6_merge_49 : decode cX6_merge 49 = .ok (.iload_n 1, 1) := by decide +kernel
theorem dX6_merge_50 : decode cX6_merge 50 = .ok (.if_icmp .eq 7, 3) := by decide +kernel
theorem dX6_merge_53 : decode cX6_merge 53 = .ok (.iconst 1, 1) := by decide +kernel
theorem dX6_merge_54 : decode cX6_merge 54 = .ok (.goto 4, 3) := by decide +kernel
theorem dX6_merge_57 : decode cX6_merge 57 = .ok (.iconst 0, 1) := by decide +kernel
theorem dX6_merge_58 : decode cX6_merge 58 = .ok (.istore 4, 2) := by decide +kernel
theorem dX6_merge_60 : decode cX6_merge 60 = .ok (.aload_n 0, 1) := by decide +kernel
theorem dX6_merge_61 : decode cX6_merge 61 = .ok (.iload_n 3, 1) := by decide +kernel
theorem dX6_merge_62 : decode cX6_merge 62 = .ok (.ifCond .ne 7, 3) := by decide +kernel
theorem dX6_merge_65 : decode cX6_merge 65 = .ok (.iconst 1, 1) := by decide +kernel
theorem dX6_merge_66 : decode cX6_merge 66 = .ok (.goto 4, 3) := by decide +kernel
theorem dX6_merge_69 : decode cX6_merge 69 = .ok (.iconst 0, 1) := by decide +kernel
theorem dX6_merge_70 : decode cX6_merge 70 = .ok (.iload 4, 2) := by decide +kernel
theorem dX6_merge_72 : decode cX6_merge 72 = .ok (.ifCond .ne 7, 3) := by decide +kernel
theorem dX6_merge_75 : decode cX6_merge 75 = .ok (.iconst 1, 1) := by decide +kernel
theorem dX6_merge_76 : decode cX6_merge 76 = .ok (.goto 4, 3) := by decide +kernel
theorem dX6_merge_79 : decode cX6_merge 79 = .ok (.iconst 0, 1) := by decide +kernel
theorem dX6_merge_80 : decode cX6_merge 80 = .ok (.iconst 0, 1) := by decide +kernel
theorem dX6_merge_81 : decode cX6_merge 81 = .ok (.invokevirtual 90, 3) := by decide +kernel
theorem dX6_merge_84 : decode cX6_merge 84 = .ok (.ifCond .eq 5, 3) := by decide +kernel
theorem dX6_merge_87 : decode cX6_merge 87 = .ok (.iconst 0, 1) := by decide +kernel
theorem dX6_merge_88 : decode cX6_merge 88 = .ok (.ireturn, 1) := by decide +kernel
theorem dX6_merge_89 : decode cX6_merge 89 = .ok (.aload_n 0, 1) := by decide +kernel
theorem dX6_merge_90 : decode cX6_merge 90 = .ok (.iload_n 1, 1) := by decide +kernel
theorem dX6_merge_91 : decode cX6_merge 91 = .ok (.invokevirtual 124, 3) := by decide +kernel
theorem dX6_merge_94 : decode cX6_merge 94 = .ok (.istore 5, 2) := by decide +kernel
theorem dX6_merge_96 : decode cX6_merge 96 = .ok (.aload_n 0, 1) := by decide +kernel
theorem dX6_merge_97 : decode cX6_merge 97 = .ok (.getfield 49, 3) := by decide +kernel
theorem dX6_merge_100 : decode cX6_merge 100 = .ok (.iload 5, 2) := by decide +kernel
theorem dX6_merge_102 : decode cX6_merge 102 = .ok (.iload_n 2, 1) := by decide +kernel
theorem dX6_merge_103 : decode cX6_merge 103 = .ok (.iastore, 1) := by decide +kernel
theorem dX6_merge_104 : decode cX6_merge 104 = .ok (.aload_n 0, 1) := by decide +kernel
theorem dX6_merge_105 : decode cX6_merge 105 = .ok (.getfield 55, 3) := by decide +kernel
theorem dX6_merge_108 : decode cX6_merge 108 = .ok (.iload 5, 2) := by decide +kernel
theorem dX6_merge_110 : decode cX6_merge 110 = .ok (.iconst 5, 1) := by decide +kernel
theorem dX6_merge_111 : decode cX6_merge 111 = .ok (.iastore, 1) := by decide +kernel
theorem dX6_merge_112 : decode cX6_merge 112 = .ok (.iconst 0, 1) := by decide +kernel
theorem dX6_merge_113 : decode cX6_merge 113 = .ok (.istore 6, 2) := by decide +kernel
theorem dX6_merge_115 : decode cX6_merge 115 = .ok (.iload 6, 2) := by decide +kernel
theorem dX6_merge_117 : decode cX6_merge 117 = .ok (.aload_n 0, 1) := by decide +kernel
theorem dX6_merge_118 : decode cX6_merge 118 = .ok (.getfield 78, 3) := by decide +kernel
theorem dX6_merge_121 : decode cX6_merge 121 = .ok (.if_icmp .ge 33, 3) := by decide +kernel
theorem dX6_merge_124 : decode cX6_merge 124 = .ok (.aload_n 0, 1) := by decide +kernel
theorem dX6_merge_125 : decode cX6_merge 125 = .ok (.getfield 46, 3) := by decide +kernel
theorem dX6_merge_128 : decode cX6_merge 128 = .ok (.iload 6, 2) := by decide +kernel
theorem dX6_merge_130 : decode cX6_merge 130 = .ok (.iaload, 1) := by decide +kernel
theorem dX6_merge_131 : decode cX6_merge 131 = .ok (.iload_n 1, 1) := by decide +kernel
theorem dX6_merge_132 : decode cX6_merge 132 = .ok (.if_icmp .ne 16, 3) := by decide +kernel
theorem dX6_merge_135 : decode cX6_merge 135 = .ok (.aload_n 0, 1) := by decide +kernel
theorem dX6_merge_136 : decode cX6_merge 136 = .ok (.getfield 46, 3) := by decide +kernel
theorem dX6_merge_139 : decode cX6_merge 139 = .ok (.iload 6, 2) := by decide +kernel
theorem dX6_merge_141 : decode cX6_merge 141 = .ok (.aload_n 0, 1) := by decide +kernel
theorem dX6_merge_142 : decode cX6_merge 142 = .ok (.getfield 46, 3) := by decide +kernel
theorem dX6_merge_145 : decode cX6_merge 145 = .ok (.iload_n 2, 1) := by decide +kernel
theorem dX6_merge_146 : decode cX6_merge 146 = .ok (.iaload, 1) := by decide +kernel
theorem dX6_merge_147 : decode cX6_merge 147 = .ok (.iastore, 1) := by decide +kernel
theorem dX6_merge_148 : decode cX6_merge 148 = .ok (.iinc 6 1, 3) := by decide +kernel
theorem dX6_merge_151 : decode cX6_merge 151 = .ok (.goto (-36), 3) := by decide +kernel
theorem dX6_merge_154 : decode cX6_merge 154 = .ok (.aload_n 0, 1) := by decide +kernel
theorem dX6_merge_155 : decode cX6_merge 155 = .ok (.getfield 58, 3) := by decide +kernel
theorem dX6_merge_158 : decode cX6_merge 158 = .ok (.iload_n 1, 1) := by decide +kernel
theorem dX6_merge_159 : decode cX6_merge 159 = .ok (.iconst 3, 1) := by decide +kernel
theorem dX6_merge_160 : decode cX6_merge 160 = .ok (.iastore, 1) := by decide +kernel
theorem dX6_merge_161 : decode cX6_merge 161 = .ok (.aload_n 0, 1) := by decide +kernel
theorem dX6_merge_162 : decode cX6_merge 162 = .ok (.getfield 61, 3) := by decide +kernel
theorem dX6_merge_165 : decode cX6_merge 165 = .ok (.iload_n 1, 1) := by decide +kernel
theorem dX6_merge_166 : decode cX6_merge 166 = .ok (.iconst (-1), 1) := by decide +kernel
theorem dX6_merge_167 : decode cX6_merge 167 = .ok (.iastore, 1) := by decide +kernel
theorem dX6_merge_168 : decode cX6_merge 168 = .ok (.aload_n 0, 1) := by decide +kernel
theorem dX6_merge_169 : decode cX6_merge 169 = .ok (.aload_n 0, 1) := by decide +kernel
theorem dX6_merge_170 : decode cX6_merge 170 = .ok (.getfield 46, 3) := by decide +kernel
theorem dX6_merge_173 : decode cX6_merge 173 = .ok (.iload_n 2, 1) := by decide +kernel
theorem dX6_merge_174 : decode cX6_merge 174 = .ok (.iaload, 1) := by decide +kernel
theorem dX6_merge_175 : decode cX6_merge 175 = .ok (.invokevirtual 173, 3) := by decide +kernel
theorem dX6_merge_178 : decode cX6_merge 178 = .ok (.ireturn, 1) := by decide +kernel
theorem dX6_watch_0 : decode cX6_watch 0 = .ok (.aload_n 0, 1) := by decide +kernel
theorem dX6_watch_1 : decode cX6_watch 1 = .ok (.iload_n 1, 1) := by decide +kernel
theorem dX6_watch_2 : decode cX6_watch 2 = .ok (.invokevirtual 170, 3) := by decide +kernel
theorem dX6_watch_5 : decode cX6_watch 5 = .ok (.ifCond .eq 14, 3) := by decide +kernel
theorem dX6_watch_8 : decode cX6_watch 8 = .ok (.iload_n 2, 1) := by decide +kernel
theorem dX6_watch_9 : decode cX6_watch 9 = .ok (.invokestatic 94, 3) := by decide +kernel
theorem dX6_watch_12 : decode cX6_watch 12 = .ok (.ifCond .eq 7, 3) := by decide +kernel
theorem dX6_watch_15 : decode cX6_watch 15 = .ok (.iconst 1, 1) := by decide +kernel
theorem dX6_watch_16 : decode cX6_watch 16 = .ok (.goto 4, 3) := by decide +kernel
theorem dX6_watch_19 : decode cX6_watch 19 = .ok (.iconst 0, 1) := by decide +kernel
theorem dX6_watch_20 : decode cX6_watch 20 = .ok (.istore 5, 2) := by decide +kernel
theorem dX6_watch_22 : decode cX6_watch 22 = .ok (.iload 5, 2) := by decide +kernel
theorem dX6_watch_24 : decode cX6_watch 24 = .ok (.ifCond .eq 46, 3) := by decide +kernel
theorem dX6_watch_27 : decode cX6_watch 27 = .ok (.iload_n 3, 1) := by decide +kernel
theorem dX6_watch_28 : decode cX6_watch 28 = .ok (.iconst 0, 1) := by decide +kernel
theorem dX6_watch_29 : decode cX6_watch 29 = .ok (.aload_n 0, 1) := by decide +kernel
theorem dX6_watch_30 : decode cX6_watch 30 = .ok (.getfield 25, 3) := by decide +kernel
theorem dX6_watch_33 : decode cX6_watch 33 = .ok (.iload_n 2, 1) := by decide +kernel
theorem dX6_watch_34 : decode cX6_watch 34 = .ok (.iaload, 1) := by decide +kernel
theorem dX6_watch_35 : decode cX6_watch 35 = .ok (.iconst 1, 1) := by decide +kernel
theorem dX6_watch_36 : decode cX6_watch 36 = .ok (.isub, 1) := by decide +kernel
theorem dX6_watch_37 : decode cX6_watch 37 = .ok (.invokestatic 74, 3) := by decide +kernel
theorem dX6_watch_40 : decode cX6_watch 40 = .ok (.ifCond .eq 30, 3) := by decide +kernel
theorem dX6_watch_43 : decode cX6_watch 43 = .ok (.iload 4, 2) := by decide +kernel
theorem dX6_watch_45 : decode cX6_watch 45 = .ok (.iconst 0, 1) := by decide +kernel
theorem dX6_watch_46 : decode cX6_watch 46 = .ok (.aload_n 0, 1) := by decide +kernel
theorem dX6_watch_47 : decode cX6_watch 47 = .ok (.getfield 25, 3) := by decide +kernel
theorem dX6_watch_50 : decode cX6_watch 50 = .ok (.iload_n 2, 1) := by decide +kernel
theorem dX6_watch_51 : decode cX6_watch 51 = .ok (.iaload, 1) := by decide +kernel
theorem dX6_watch_52 : decode cX6_watch 52 = .ok (.iconst 1, 1) := by decide +kernel
theorem dX6_watch_53 : decode cX6_watch 53 = .ok (.isub, 1) := by decide +kernel
theorem dX6_watch_54 : decode cX6_watch 54 = .ok (.invokestatic 74, 3) := by decide +kernel
theorem dX6_watch_57 : decode cX6_watch 57 = .ok (.ifCond .eq 13, 3) := by decide +kernel
theorem dX6_watch_60 : decode cX6_watch 60 = .ok (.iload_n 3, 1) := by decide +kernel
theorem dX6_watch_61 : decode cX6_watch 61 = .ok (.iload 4, 2) := by decide +kernel
theorem dX6_watch_63 : decode cX6_watch 63 = .ok (.if_icmp .eq 7, 3) := by decide +kernel
theorem dX6_watch_66 : decode cX6_watch 66 = .ok (.iconst 1, 1) := by decide +kernel
theorem dX6_watch_67 : decode cX6_watch 67 = .ok (.goto 4, 3) := by decide +kernel
theorem dX6_watch_70 : decode cX6_watch 70 = .ok (.iconst 0, 1) := by decide +kernel
theorem dX6_watch_71 : decode cX6_watch 71 = .ok (.istore 6, 2) := by decide +kernel
theorem dX6_watch_73 : decode cX6_watch 73 = .ok (.aload_n 0, 1) := by decide +kernel
theorem dX6_watch_74 : decode cX6_watch 74 = .ok (.iload 5, 2) := by decide +kernel
theorem dX6_watch_76 : decode cX6_watch 76 = .ok (.ifCond .ne 7, 3) := by decide +kernel
theorem dX6_watch_79 : decode cX6_watch 79 = .ok (.iconst 1, 1) := by decide +kernel
theorem dX6_watch_80 : decode cX6_watch 80 = .ok (.goto 4, 3) := by decide +kernel
theorem dX6_watch_83 : decode cX6_watch 83 = .ok (.iconst 0, 1) := by decide +kernel
theorem dX6_watch_84 : decode cX6_watch 84 = .ok (.iload 6, 2) := by decide +kernel
theorem dX6_watch_86 : decode cX6_watch 86 = .ok (.ifCond .ne 7, 3) := by decide +kernel
theorem dX6_watch_89 : decode cX6_watch 89 = .ok (.iconst 1, 1) := by decide +kernel
theorem dX6_watch_90 : decode cX6_watch 90 = .ok (.goto 4, 3) := by decide +kernel
theorem dX6_watch_93 : decode cX6_watch 93 = .ok (.iconst 0, 1) := by decide +kernel
theorem dX6_watch_94 : decode cX6_watch 94 = .ok (.iload 5, 2) := by decide +kernel
theorem dX6_watch_96 : decode cX6_watch 96 = .ok (.ifCond .eq 16, 3) := by decide +kernel
theorem dX6_watch_99 : decode cX6_watch 99 = .ok (.aload_n 0, 1) := by decide +kernel
theorem dX6_watch_100 : decode cX6_watch 100 = .ok (.getfield 58, 3) := by decide +kernel
theorem dX6_watch_103 : decode cX6_watch 103 = .ok (.iload_n 1, 1) := by decide +kernel
theorem dX6_watch_104 : decode cX6_watch 104 = .ok (.iaload, 1) := by decide +kernel
theorem dX6_watch_105 : decode cX6_watch 105 = .ok (.ifCond .eq 7, 3) := by decide +kernel
theorem dX6_watch_108 : decode cX6_watch 108 = .ok (.iconst 1, 1) := by decide +kernel
theorem dX6_watch_109 : decode cX6_watch 109 = .ok (.goto 4, 3) := by decide +kernel
theorem dX6_watch_112 : decode cX6_watch 112 = .ok (.iconst 0, 1) := by decide +kernel
theorem dX6_watch_113 : decode cX6_watch 113 = .ok (.invokevirtual 90, 3) := by decide +kernel
theorem dX6_watch_116 : decode cX6_watch 116 = .ok (.ifCond .eq 4, 3) := by decide +kernel
theorem dX6_watch_119 : decode cX6_watch 119 = .ok (.return_, 1) := by decide +kernel
theorem dX6_watch_120 : decode cX6_watch 120 = .ok (.aload_n 0, 1) := by decide +kernel
theorem dX6_watch_121 : decode cX6_watch 121 = .ok (.getfield 61, 3) := by decide +kernel
theorem dX6_watch_124 : decode cX6_watch 124 = .ok (.iload_n 1, 1) := by decide +kernel
theorem dX6_watch_125 : decode cX6_watch 125 = .ok (.iload_n 2, 1) := by decide +kernel
theorem dX6_watch_126 : decode cX6_watch 126 = .ok (.iastore, 1) := by decide +kernel
theorem dX6_watch_127 : decode cX6_watch 127 = .ok (.aload_n 0, 1) := by decide +kernel
theorem dX6_watch_128 : decode cX6_watch 128 = .ok (.getfield 64, 3) := by decide +kernel
theorem dX6_watch_131 : decode cX6_watch 131 = .ok (.iload_n 1, 1) := by decide +kernel
theorem dX6_watch_132 : decode cX6_watch 132 = .ok (.iload_n 3, 1) := by decide +kernel
theorem dX6_watch_133 : decode cX6_watch 133 = .ok (.iastore, 1) := by decide +kernel
theorem dX6_watch_134 : decode cX6_watch 134 = .ok (.aload_n 0, 1) := by decide +kernel
theorem dX6_watch_135 : decode cX6_watch 135 = .ok (.getfield 67, 3) := by decide +kernel
theorem dX6_watch_138 : decode cX6_watch 138 = .ok (.iload_n 1, 1) := by decide +kernel
theorem dX6_watch_139 : decode cX6_watch 139 = .ok (.iload 4, 2) := by decide +kernel
theorem dX6_watch_141 : decode cX6_watch 141 = .ok (.iastore, 1) := by decide +kernel
theorem dX6_watch_142 : decode cX6_watch 142 = .ok (.return_, 1) := by decide +kernel
theorem dX6_state_0 : decode cX6_state 0 = .ok (.aload_n 0, 1) := by decide +kernel
theorem dX6_state_1 : decode cX6_state 1 = .ok (.iload_n 1, 1) := by decide +kernel
theorem dX6_state_2 : decode cX6_state 2 = .ok (.invokevirtual 170, 3) := by decide +kernel
theorem dX6_state_5 : decode cX6_state 5 = .ok (.istore_n 3, 1) := by decide +kernel
theorem dX6_state_6 : decode cX6_state 6 = .ok (.aload_n 0, 1) := by decide +kernel
theorem dX6_state_7 : decode cX6_state 7 = .ok (.iload_n 3, 1) := by decide +kernel
theorem dX6_state_8 : decode cX6_state 8 = .ok (.ifCond .ne 7, 3) := by decide +kernel
theorem dX6_state_11 : decode cX6_state 11 = .ok (.iconst 1, 1) := by decide +kernel
theorem dX6_state_12 : decode cX6_state 12 = .ok (.goto 4, 3) := by decide +kernel
theorem dX6_state_15 : decode cX6_state 15 = .ok (.iconst 0, 1) := by decide +kernel
theorem dX6_state_16 : decode cX6_state 16 = .ok (.iload_n 2, 1) := by decide +kernel
theorem dX6_state_17 : decode cX6_state 17 = .ok (.iconst 0, 1) := by decide +kernel
theorem dX6_state_18 : decode cX6_state 18 = .ok (.iconst 2, 1) := by decide +kernel
theorem dX6_state_19 : decode cX6_state 19 = .ok (.invokestatic 74, 3) := by decide +kernel
theorem dX6_state_22 : decode cX6_state 22 = .ok (.ifCond .ne 7, 3) := by decide +kernel
theorem dX6_state_25 : decode cX6_state 25 = .ok (.iconst 1, 1) := by decide +kernel
theorem dX6_state_26 : decode cX6_state 26 = .ok (.goto 4, 3) := by decide +kernel
theorem dX6_state_29 : decode cX6_state 29 = .ok (.iconst 0, 1) := by decide +kernel
theorem dX6_state_30 : decode cX6_state 30 = .ok (.iload_n 3, 1) := by decide +kernel
theorem dX6_state_31 : decode cX6_state 31 = .ok (.ifCond .eq 27, 3) := by decide +kernel
theorem dX6_state_34 : decode cX6_state 34 = .ok (.aload_n 0, 1) := by decide +kernel
theorem dX6_state_35 : decode cX6_state 35 = .ok (.getfield 58, 3) := by decide +kernel
theorem dX6_state_38 : decode cX6_state 38 = .ok (.iload_n 1, 1) := by decide +kernel
theorem dX6_state_39 : decode cX6_state 39 = .ok (.iaload, 1) := by decide +kernel
theorem dX6_state_40 : decode cX6_state 40 = .ok (.iload_n 2, 1) := by decide +kernel
theorem dX6_state_41 : decode cX6_state 41 = .ok (.if_icmp .eq 13, 3) := by decide +kernel
theorem dX6_state_44 : decode cX6_state 44 = .ok (.aload_n 0, 1) := by decide +kernel
theorem dX6_state_45 : decode cX6_state 45 = .ok (.getfield 58, 3) := by decide +kernel
theorem dX6_state_48 : decode cX6_state 48 = .ok (.iload_n 1, 1) := by decide +kernel
theorem dX6_state_49 : decode cX6_state 49 = .ok (.iaload, 1) := by decide +kernel
theorem dX6_state_50 : decode cX6_state 50 = .ok (.iconst 3, 1) := by decide +kernel
theorem dX6_state_51 : decode cX6_state 51 = .ok (.if_icmp .ne 7, 3) := by decide +kernel
theorem dX6_state_54 : decode cX6_state 54 = .ok (.iconst 1, 1) := by decide +kernel
theorem dX6_state_55 : decode cX6_state 55 = .ok (.goto 4, 3) := by decide +kernel
theorem dX6_state_58 : decode cX6_state 58 = .ok (.iconst 0, 1) := by decide +kernel
theorem dX6_state_59 : decode cX6_state 59 = .ok (.invokevirtual 90, 3) := by decide +kernel
theorem dX6_state_62 : decode cX6_state 62 = .ok (.ifCond .eq 4, 3) := by decide +kernel
theorem dX6_state_65 : decode cX6_state 65 = .ok (.return_, 1) := by decide +kernel
theorem dX6_state_66 : decode cX6_state 66 = .ok (.aload_n 0, 1) := by decide +kernel
theorem dX6_state_67 : decode cX6_state 67 = .ok (.getfield 58, 3) := by decide +kernel
theorem dX6_state_70 : decode cX6_state 70 = .ok (.iload_n 1, 1) := by decide +kernel
theorem dX6_state_71 : decode cX6_state 71 = .ok (.iload_n 2, 1) := by decide +kernel
theorem dX6_state_72 : decode cX6_state 72 = .ok (.iastore, 1) := by decide +kernel
theorem dX6_state_73 : decode cX6_state 73 = .ok (.return_, 1) := by decide +kernel
theorem dX6_share_0 : decode cX6_share 0 = .ok (.aload_n 0, 1) := by decide +kernel
theorem dX6_share_1 : decode cX6_share 1 = .ok (.iload_n 1, 1) := by decide +kernel
theorem dX6_share_2 : decode cX6_share 2 = .ok (.invokevirtual 167, 3) := by decide +kernel
theorem dX6_share_5 : decode cX6_share 5 = .ok (.ifCond .eq 20, 3) := by decide +kernel
theorem dX6_share_8 : decode cX6_share 8 = .ok (.aload_n 0, 1) := by decide +kernel
theorem dX6_share_9 : decode cX6_share 9 = .ok (.iload_n 2, 1) := by decide +kernel
theorem dX6_share_10 : decode cX6_share 10 = .ok (.invokevirtual 167, 3) := by decide +kernel
theorem dX6_share_13 : decode cX6_share 13 = .ok (.ifCond .eq 12, 3) := by decide +kernel
theorem dX6_share_16 : decode cX6_share 16 = .ok (.iload_n 1, 1) := by decide +kernel
theorem dX6_share_17 : decode cX6_share 17 = .ok (.iload_n 2, 1) := by decide +kernel
theorem dX6_share_18 : decode cX6_share 18 = .ok (.if_icmp .eq 7, 3) := by decide +kernel
theorem dX6_share_21 : decode cX6_share 21 = .ok (.iconst 1, 1) := by decide +kernel
theorem dX6_share_22 : decode cX6_share 22 = .ok (.goto 4, 3) := by decide +kernel
theorem dX6_share_25 : decode cX6_share 25 = .ok (.iconst 0, 1) := by decide +kernel
theorem dX6_share_26 : decode cX6_share 26 = .ok (.istore_n 3, 1) := by decide +kernel
theorem dX6_share_27 : decode cX6_share 27 = .ok (.iload_n 3, 1) := by decide +kernel
theorem dX6_share_28 : decode cX6_share 28 = .ok (.ifCond .eq 21, 3) := by decide +kernel
theorem dX6_share_31 : decode cX6_share 31 = .ok (.aload_n 0, 1) := by decide +kernel
theorem dX6_share_32 : decode cX6_share 32 = .ok (.getfield 34, 3) := by decide +kernel
theorem dX6_share_35 : decode cX6_share 35 = .ok (.iload_n 1, 1) := by decide +kernel
theorem dX6_share_36 : decode cX6_share 36 = .ok (.iload_n 2, 1) := by decide +kernel
theorem dX6_share_37 : decode cX6_share 37 = .ok (.if_icmp .le 7, 3) := by decide +kernel
theorem dX6_share_40 : decode cX6_share 40 = .ok (.iload_n 1, 1) := by decide +kernel
theorem dX6_share_41 : decode cX6_share 41 = .ok (.goto 4, 3) := by decide +kernel
theorem dX6_share_44 : decode cX6_share 44 = .ok (.iload_n 2, 1) := by decide +kernel
theorem dX6_share_45 : decode cX6_share 45 = .ok (.iaload, 1) := by decide +kernel
theorem dX6_share_46 : decode cX6_share 46 = .ok (.goto 4, 3) := by decide +kernel
theorem dX6_share_49 : decode cX6_share 49 = .ok (.iconst 0, 1) := by decide +kernel
theorem dX6_share_50 : decode cX6_share 50 = .ok (.istore 4, 2) := by decide +kernel
theorem dX6_share_52 : decode cX6_share 52 = .ok (.iload_n 3, 1) := by decide +kernel
theorem dX6_share_53 : decode cX6_share 53 = .ok (.ifCond .eq 25, 3) := by decide +kernel
theorem dX6_share_56 : decode cX6_share 56 = .ok (.aload_n 0, 1) := by decide +kernel
theorem dX6_share_57 : decode cX6_share 57 = .ok (.aload_n 0, 1) := by decide +kernel
theorem dX6_share_58 : decode cX6_share 58 = .ok (.getfield 40, 3) := by decide +kernel
theorem dX6_share_61 : decode cX6_share 61 = .ok (.iload_n 1, 1) := by decide +kernel
theorem dX6_share_62 : decode cX6_share 62 = .ok (.iaload, 1) := by decide +kernel
theorem dX6_share_63 : decode cX6_share 63 = .ok (.aload_n 0, 1) := by decide +kernel
theorem dX6_share_64 : decode cX6_share 64 = .ok (.getfield 40, 3) := by decide +kernel
theorem dX6_share_67 : decode cX6_share 67 = .ok (.iload_n 2, 1) := by decide +kernel
theorem dX6_share_68 : decode cX6_share 68 = .ok (.iaload, 1) := by decide +kernel
theorem dX6_share_69 : decode cX6_share 69 = .ok (.ior, 1) := by decide +kernel
theorem dX6_share_70 : decode cX6_share 70 = .ok (.iload 4, 2) := by decide +kernel
theorem dX6_share_72 : decode cX6_share 72 = .ok (.invokevirtual 100, 3) := by decide +kernel
theorem dX6_share_75 : decode cX6_share 75 = .ok (.goto 4, 3) := by decide +kernel
theorem dX6_share_78 : decode cX6_share 78 = .ok (.iconst 0, 1) := by decide +kernel
theorem dX6_share_79 : decode cX6_share 79 = .ok (.istore 5, 2) := by decide +kernel
theorem dX6_share_81 : decode cX6_share 81 = .ok (.aload_n 0, 1) := by decide +kernel
theorem dX6_share_82 : decode cX6_share 82 = .ok (.iload_n 3, 1) := by decide +kernel
theorem dX6_share_83 : decode cX6_share 83 = .ok (.ifCond .ne 7, 3) := by decide +kernel
theorem dX6_share_86 : decode cX6_share 86 = .ok (.iconst 1, 1) := by decide +kernel
theorem dX6_share_87 : decode cX6_share 87 = .ok (.goto 4, 3) := by decide +kernel
theorem dX6_share_90 : decode cX6_share 90 = .ok (.iconst 0, 1) := by decide +kernel
theorem dX6_share_91 : decode cX6_share 91 = .ok (.iload 5, 2) := by decide +kernel
theorem dX6_share_93 : decode cX6_share 93 = .ok (.ifCond .ne 7, 3) := by decide +kernel
theorem dX6_share_96 : decode cX6_share 96 = .ok (.iconst 1, 1) := by decide +kernel
theorem dX6_share_97 : decode cX6_share 97 = .ok (.goto 4, 3) := by decide +kernel
theorem dX6_share_100 : decode cX6_share 100 = .ok (.iconst 0, 1) := by decide +kernel
theorem dX6_share_101 : decode cX6_share 101 = .ok (.iconst 0, 1) := by decide +kernel
theorem dX6_share_102 : decode cX6_share 102 = .ok (.invokevirtual 90, 3) := by decide +kernel
end
section
theorem dX6_share_105 : decode cX6_share 105 = .ok (.ifCond .eq 5, 3) := by decide +kernel
theorem dX6_share_108 : decode cX6_share 108 = .ok (.iconst 0, 1) := by decide +kernel
theorem dX6_share_109 : decode cX6_share 109 = .ok (.ireturn, 1) := by decide +kernel
theorem dX6_share_110 : decode cX6_share 110 = .ok (.sipush 1000, 3) := by decide +kernel
theorem dX6_share_113 : decode cX6_share 113 = .ok (.aload_n 0, 1) := by decide +kernel
theorem dX6_share_114 : decode cX6_share 114 = .ok (.aload_n 0, 1) := by decide +kernel
theorem dX6_share_115 : decode cX6_share 115 = .ok (.getfield 40, 3) := by decide +kernel
theorem dX6_share_118 : decode cX6_share 118 = .ok (.iload_n 1, 1) := by decide +kernel
theorem dX6_share_119 : decode cX6_share 119 = .ok (.iaload, 1) := by decide +kernel
theorem dX6_share_120 : decode cX6_share 120 = .ok (.aload_n 0, 1) := by decide +kernel
theorem dX6_share_121 : decode cX6_share 121 = .ok (.getfield 40, 3) := by decide +kernel
theorem dX6_share_124 : decode cX6_share 124 = .ok (.iload_n 2, 1) := by decide +kernel
theorem dX6_share_125 : decode cX6_share 125 = .ok (.iaload, 1) := by decide +kernel
theorem dX6_share_126 : decode cX6_share 126 = .ok (.iand, 1) := by decide +kernel
theorem dX6_share_127 : decode cX6_share 127 = .ok (.iload 4, 2) := by decide +kernel
theorem dX6_share_129 : decode cX6_share 129 = .ok (.invokevirtual 100, 3) := by decide +kernel
theorem dX6_share_132 : decode cX6_share 132 = .ok (.imul, 1) := by decide +kernel
theorem dX6_share_133 : decode cX6_share 133 = .ok (.iload 5, 2) := by decide +kernel
theorem dX6_share_135 : decode cX6_share 135 = .ok (.idiv, 1) := by decide +kernel
theorem dX6_share_136 : decode cX6_share 136 = .ok (.ireturn, 1) := by decide +kernel
theorem dX6_agree_0 : decode cX6_agree 0 = .ok (.aload_n 0, 1) := by decide +kernel
theorem dX6_agree_1 : decode cX6_agree 1 = .ok (.iload_n 1, 1) := by decide +kernel
theorem dX6_agree_2 : decode cX6_agree 2 = .ok (.invokevirtual 167, 3) := by decide +kernel
theorem dX6_agree_5 : decode cX6_agree 5 = .ok (.ifCond .eq 20, 3) := by decide +kernel
theorem dX6_agree_8 : decode cX6_agree 8 = .ok (.aload_n 0, 1) := by decide +kernel
theorem dX6_agree_9 : decode cX6_agree 9 = .ok (.iload_n 2, 1) := by decide +kernel
theorem dX6_agree_10 : decode cX6_agree 10 = .ok (.invokevirtual 167, 3) := by decide +kernel
theorem dX6_agree_13 : decode cX6_agree 13 = .ok (.ifCond .eq 12, 3) := by decide +kernel
theorem dX6_agree_16 : decode cX6_agree 16 = .ok (.iload_n 1, 1) := by decide +kernel
theorem dX6_agree_17 : decode cX6_agree 17 = .ok (.iload_n 2, 1) := by decide +kernel
theorem dX6_agree_18 : decode cX6_agree 18 = .ok (.if_icmp .eq 7, 3) := by decide +kernel
theorem dX6_agree_21 : decode cX6_agree 21 = .ok (.iconst 1, 1) := by decide +kernel
theorem dX6_agree_22 : decode cX6_agree 22 = .ok (.goto 4, 3) := by decide +kernel
theorem dX6_agree_25 : decode cX6_agree 25 = .ok (.iconst 0, 1) := by decide +kernel
theorem dX6_agree_26 : decode cX6_agree 26 = .ok (.istore_n 3, 1) := by decide +kernel
theorem dX6_agree_27 : decode cX6_agree 27 = .ok (.aload_n 0, 1) := by decide +kernel
theorem dX6_agree_28 : decode cX6_agree 28 = .ok (.iload_n 3, 1) := by decide +kernel
theorem dX6_agree_29 : decode cX6_agree 29 = .ok (.ifCond .ne 7, 3) := by decide +kernel
theorem dX6_agree_32 : decode cX6_agree 32 = .ok (.iconst 1, 1) := by decide +kernel
theorem dX6_agree_33 : decode cX6_agree 33 = .ok (.goto 4, 3) := by decide +kernel
theorem dX6_agree_36 : decode cX6_agree 36 = .ok (.iconst 0, 1) := by decide +kernel
theorem dX6_agree_37 : decode cX6_agree 37 = .ok (.iconst 0, 1) := by decide +kernel
theorem dX6_agree_38 : decode cX6_agree 38 = .ok (.iconst 0, 1) := by decide +kernel
theorem dX6_agree_39 : decode cX6_agree 39 = .ok (.invokevirtual 90, 3) := by decide +kernel
theorem dX6_agree_42 : decode cX6_agree 42 = .ok (.ifCond .eq 5, 3) := by decide +kernel
theorem dX6_agree_45 : decode cX6_agree 45 = .ok (.iconst 0, 1) := by decide +kernel
theorem dX6_agree_46 : decode cX6_agree 46 = .ok (.ireturn, 1) := by decide +kernel
theorem dX6_agree_47 : decode cX6_agree 47 = .ok (.iload_n 1, 1) := by decide +kernel
theorem dX6_agree_48 : decode cX6_agree 48 = .ok (.iload_n 2, 1) := by decide +kernel
theorem dX6_agree_49 : decode cX6_agree 49 = .ok (.if_icmp .ge 7, 3) := by decide +kernel
theorem dX6_agree_52 : decode cX6_agree 52 = .ok (.iload_n 1, 1) := by decide +kernel
theorem dX6_agree_53 : decode cX6_agree 53 = .ok (.goto 4, 3) := by decide +kernel
theorem dX6_agree_56 : decode cX6_agree 56 = .ok (.iload_n 2, 1) := by decide +kernel
theorem dX6_agree_57 : decode cX6_agree 57 = .ok (.istore 4, 2) := by decide +kernel
theorem dX6_agree_59 : decode cX6_agree 59 = .ok (.iload_n 1, 1) := by decide +kernel
theorem dX6_agree_60 : decode cX6_agree 60 = .ok (.iload_n 2, 1) := by decide +kernel
theorem dX6_agree_61 : decode cX6_agree 61 = .ok (.iadd, 1) := by decide +kernel
theorem dX6_agree_62 : decode cX6_agree 62 = .ok (.iload 4, 2) := by decide +kernel
theorem dX6_agree_64 : decode cX6_agree 64 = .ok (.isub, 1) := by decide +kernel
theorem dX6_agree_65 : decode cX6_agree 65 = .ok (.istore 5, 2) := by decide +kernel
theorem dX6_agree_67 : decode cX6_agree 67 = .ok (.aload_n 0, 1) := by decide +kernel
theorem dX6_agree_68 : decode cX6_agree 68 = .ok (.iload 4, 2) := by decide +kernel
theorem dX6_agree_70 : decode cX6_agree 70 = .ok (.aload_n 0, 1) := by decide +kernel
theorem dX6_agree_71 : decode cX6_agree 71 = .ok (.getfield 34, 3) := by decide +kernel
theorem dX6_agree_74 : decode cX6_agree 74 = .ok (.iload 5, 2) := by decide +kernel
theorem dX6_agree_76 : decode cX6_agree 76 = .ok (.iaload, 1) := by decide +kernel
theorem dX6_agree_77 : decode cX6_agree 77 = .ok (.aload_n 0, 1) := by decide +kernel
theorem dX6_agree_78 : decode cX6_agree 78 = .ok (.getfield 37, 3) := by decide +kernel
theorem dX6_agree_81 : decode cX6_agree 81 = .ok (.iload 5, 2) := by decide +kernel
theorem dX6_agree_83 : decode cX6_agree 83 = .ok (.iaload, 1) := by decide +kernel
theorem dX6_agree_84 : decode cX6_agree 84 = .ok (.aload_n 0, 1) := by decide +kernel
theorem dX6_agree_85 : decode cX6_agree 85 = .ok (.getfield 40, 3) := by decide +kernel
theorem dX6_agree_88 : decode cX6_agree 88 = .ok (.iload 5, 2) := by decide +kernel
theorem dX6_agree_90 : decode cX6_agree 90 = .ok (.iaload, 1) := by decide +kernel
theorem dX6_agree_91 : decode cX6_agree 91 = .ok (.aload_n 0, 1) := by decide +kernel
theorem dX6_agree_92 : decode cX6_agree 92 = .ok (.getfield 43, 3) := by decide +kernel
theorem dX6_agree_95 : decode cX6_agree 95 = .ok (.iload 5, 2) := by decide +kernel
theorem dX6_agree_97 : decode cX6_agree 97 = .ok (.iaload, 1) := by decide +kernel
theorem dX6_agree_98 : decode cX6_agree 98 = .ok (.invokevirtual 131, 3) := by decide +kernel
theorem dX6_agree_101 : decode cX6_agree 101 = .ok (.ireturn, 1) := by decide +kernel
theorem dX6_callAt_0 : decode cX6_callAt 0 = .ok (.aload_n 0, 1) := by decide +kernel
theorem dX6_callAt_1 : decode cX6_callAt 1 = .ok (.aload_n 0, 1) := by decide +kernel
theorem dX6_callAt_2 : decode cX6_callAt 2 = .ok (.iload_n 1, 1) := by decide +kernel
theorem dX6_callAt_3 : decode cX6_callAt 3 = .ok (.invokevirtual 167, 3) := by decide +kernel
theorem dX6_callAt_6 : decode cX6_callAt 6 = .ok (.ifCond .eq 12, 3) := by decide +kernel
theorem dX6_callAt_9 : decode cX6_callAt 9 = .ok (.iload_n 2, 1) := by decide +kernel
theorem dX6_callAt_10 : decode cX6_callAt 10 = .ok (.iconst 0, 1) := by decide +kernel
theorem dX6_callAt_11 : decode cX6_callAt 11 = .ok (.iconst 4, 1) := by decide +kernel
theorem dX6_callAt_12 : decode cX6_callAt 12 = .ok (.invokestatic 74, 3) := by decide +kernel
theorem dX6_callAt_15 : decode cX6_callAt 15 = .ok (.ifCond .ne 7, 3) := by decide +kernel
theorem dX6_callAt_18 : decode cX6_callAt 18 = .ok (.iconst 1, 1) := by decide +kernel
theorem dX6_callAt_19 : decode cX6_callAt 19 = .ok (.goto 4, 3) := by decide +kernel
theorem dX6_callAt_22 : decode cX6_callAt 22 = .ok (.iconst 0, 1) := by decide +kernel
theorem dX6_callAt_23 : decode cX6_callAt 23 = .ok (.iconst 0, 1) := by decide +kernel
theorem dX6_callAt_24 : decode cX6_callAt 24 = .ok (.iconst 0, 1) := by decide +kernel
theorem dX6_callAt_25 : decode cX6_callAt 25 = .ok (.invokevirtual 90, 3) := by decide +kernel
theorem dX6_callAt_28 : decode cX6_callAt 28 = .ok (.ifCond .eq 5, 3) := by decide +kernel
theorem dX6_callAt_31 : decode cX6_callAt 31 = .ok (.iconst 0, 1) := by decide +kernel
theorem dX6_callAt_32 : decode cX6_callAt 32 = .ok (.ireturn, 1) := by decide +kernel
theorem dX6_callAt_33 : decode cX6_callAt 33 = .ok (.iload_n 2, 1) := by decide +kernel
theorem dX6_callAt_34 : decode cX6_callAt 34 = .ok (.ifCond .ne 12, 3) := by decide +kernel
theorem dX6_callAt_37 : decode cX6_callAt 37 = .ok (.aload_n 0, 1) := by decide +kernel
theorem dX6_callAt_38 : decode cX6_callAt 38 = .ok (.getfield 46, 3) := by decide +kernel
theorem dX6_callAt_41 : decode cX6_callAt 41 = .ok (.iload_n 1, 1) := by decide +kernel
theorem dX6_callAt_42 : decode cX6_callAt 42 = .ok (.iaload, 1) := by decide +kernel
theorem dX6_callAt_43 : decode cX6_callAt 43 = .ok (.goto 51, 3) := by decide +kernel
theorem dX6_callAt_46 : decode cX6_callAt 46 = .ok (.iload_n 2, 1) := by decide +kernel
theorem dX6_callAt_47 : decode cX6_callAt 47 = .ok (.iconst 1, 1) := by decide +kernel
theorem dX6_callAt_48 : decode cX6_callAt 48 = .ok (.if_icmp .ne 12, 3) := by decide +kernel
theorem dX6_callAt_51 : decode cX6_callAt 51 = .ok (.aload_n 0, 1) := by decide +kernel
theorem dX6_callAt_52 : decode cX6_callAt 52 = .ok (.getfield 49, 3) := by decide +kernel
theorem dX6_callAt_55 : decode cX6_callAt 55 = .ok (.iload_n 1, 1) := by decide +kernel
theorem dX6_callAt_56 : decode cX6_callAt 56 = .ok (.iaload, 1) := by decide +kernel
theorem dX6_callAt_57 : decode cX6_callAt 57 = .ok (.goto 37, 3) := by decide +kernel
theorem dX6_callAt_60 : decode cX6_callAt 60 = .ok (.iload_n 2, 1) := by decide +kernel
theorem dX6_callAt_61 : decode cX6_callAt 61 = .ok (.iconst 2, 1) := by decide +kernel
theorem dX6_callAt_62 : decode cX6_callAt 62 = .ok (.if_icmp .ne 12, 3) := by decide +kernel
theorem dX6_callAt_65 : decode cX6_callAt 65 = .ok (.aload_n 0, 1) := by decide +kernel
theorem dX6_callAt_66 : decode cX6_callAt 66 = .ok (.getfield 52, 3) := by decide +kernel
theorem dX6_callAt_69 : decode cX6_callAt 69 = .ok (.iload_n 1, 1) := by decide +kernel
theorem dX6_callAt_70 : decode cX6_callAt 70 = .ok (.iaload, 1) := by decide +kernel
theorem dX6_callAt_71 : decode cX6_callAt 71 = .ok (.goto 23, 3) := by decide +kernel
theorem dX6_callAt_74 : decode cX6_callAt 74 = .ok (.iload_n 2, 1) := by decide +kernel
theorem dX6_callAt_75 : decode cX6_callAt 75 = .ok (.iconst 3, 1) := by decide +kernel
theorem dX6_callAt_76 : decode cX6_callAt 76 = .ok (.if_icmp .ne 12, 3) := by decide +kernel
theorem dX6_callAt_79 : decode cX6_callAt 79 = .ok (.aload_n 0, 1) := by decide +kernel
theorem dX6_callAt_80 : decode cX6_callAt 80 = .ok (.getfield 34, 3) := by decide +kernel
theorem dX6_callAt_83 : decode cX6_callAt 83 = .ok (.iload_n 1, 1) := by decide +kernel
theorem dX6_callAt_84 : decode cX6_callAt 84 = .ok (.iaload, 1) := by decide +kernel
theorem dX6_callAt_85 : decode cX6_callAt 85 = .ok (.goto 9, 3) := by decide +kernel
theorem dX6_callAt_88 : decode cX6_callAt 88 = .ok (.aload_n 0, 1) := by decide +kernel
theorem dX6_callAt_89 : decode cX6_callAt 89 = .ok (.getfield 55, 3) := by decide +kernel
theorem dX6_callAt_92 : decode cX6_callAt 92 = .ok (.iload_n 1, 1) := by decide +kernel
theorem dX6_callAt_93 : decode cX6_callAt 93 = .ok (.iaload, 1) := by decide +kernel
theorem dX6_callAt_94 : decode cX6_callAt 94 = .ok (.ireturn, 1) := by decide +kernel
theorem dX6_weightOf_0 : decode cX6_weightOf 0 = .ok (.iconst 0, 1) := by decide +kernel
theorem dX6_weightOf_1 : decode cX6_weightOf 1 = .ok (.istore_n 2, 1) := by decide +kernel
theorem dX6_weightOf_2 : decode cX6_weightOf 2 = .ok (.iconst 0, 1) := by decide +kernel
theorem dX6_weightOf_3 : decode cX6_weightOf 3 = .ok (.istore_n 3, 1) := by decide +kernel
theorem dX6_weightOf_4 : decode cX6_weightOf 4 = .ok (.iload_n 3, 1) := by decide +kernel
theorem dX6_weightOf_5 : decode cX6_weightOf 5 = .ok (.aload_n 0, 1) := by decide +kernel
theorem dX6_weightOf_6 : decode cX6_weightOf 6 = .ok (.getfield 78, 3) := by decide +kernel
theorem dX6_weightOf_9 : decode cX6_weightOf 9 = .ok (.if_icmp .ge 63, 3) := by decide +kernel
theorem dX6_weightOf_12 : decode cX6_weightOf 12 = .ok (.aload_n 0, 1) := by decide +kernel
theorem dX6_weightOf_13 : decode cX6_weightOf 13 = .ok (.getfield 46, 3) := by decide +kernel
theorem dX6_weightOf_16 : decode cX6_weightOf 16 = .ok (.iload_n 3, 1) := by decide +kernel
theorem dX6_weightOf_17 : decode cX6_weightOf 17 = .ok (.iaload, 1) := by decide +kernel
theorem dX6_weightOf_18 : decode cX6_weightOf 18 = .ok (.iload_n 1, 1) := by decide +kernel
theorem dX6_weightOf_19 : decode cX6_weightOf 19 = .ok (.if_icmp .ne 47, 3) := by decide +kernel
theorem dX6_weightOf_22 : decode cX6_weightOf 22 = .ok (.aload_n 0, 1) := by decide +kernel
theorem dX6_weightOf_23 : decode cX6_weightOf 23 = .ok (.iload_n 3, 1) := by decide +kernel
theorem dX6_weightOf_24 : decode cX6_weightOf 24 = .ok (.invokevirtual 121, 3) := by decide +kernel
theorem dX6_weightOf_27 : decode cX6_weightOf 27 = .ok (.ifCond .ne 39, 3) := by decide +kernel
theorem dX6_weightOf_30 : decode cX6_weightOf 30 = .ok (.iload_n 2, 1) := by decide +kernel
theorem dX6_weightOf_31 : decode cX6_weightOf 31 = .ok (.iconst 4, 1) := by decide +kernel
theorem dX6_weightOf_32 : decode cX6_weightOf 32 = .ok (.aload_n 0, 1) := by decide +kernel
theorem dX6_weightOf_33 : decode cX6_weightOf 33 = .ok (.getfield 52, 3) := by decide +kernel
theorem dX6_weightOf_36 : decode cX6_weightOf 36 = .ok (.iload_n 3, 1) := by decide +kernel
theorem dX6_weightOf_37 : decode cX6_weightOf 37 = .ok (.iaload, 1) := by decide +kernel
theorem dX6_weightOf_38 : decode cX6_weightOf 38 = .ok (.iconst 1, 1) := by decide +kernel
theorem dX6_weightOf_39 : decode cX6_weightOf 39 = .ok (.iand, 1) := by decide +kernel
theorem dX6_weightOf_40 : decode cX6_weightOf 40 = .ok (.ifCond .eq 7, 3) := by decide +kernel
theorem dX6_weightOf_43 : decode cX6_weightOf 43 = .ok (.iconst 2, 1) := by decide +kernel
theorem dX6_weightOf_44 : decode cX6_weightOf 44 = .ok (.goto 4, 3) := by decide +kernel
theorem dX6_weightOf_47 : decode cX6_weightOf 47 = .ok (.iconst 0, 1) := by decide +kernel
theorem dX6_weightOf_48 : decode cX6_weightOf 48 = .ok (.isub, 1) := by decide +kernel
theorem dX6_weightOf_49 : decode cX6_weightOf 49 = .ok (.aload_n 0, 1) := by decide +kernel
theorem dX6_weightOf_50 : decode cX6_weightOf 50 = .ok (.getfield 37, 3) := by decide +kernel
theorem dX6_weightOf_53 : decode cX6_weightOf 53 = .ok (.iload_n 3, 1) := by decide +kernel
theorem dX6_weightOf_54 : decode cX6_weightOf 54 = .ok (.iaload, 1) := by decide +kernel
theorem dX6_weightOf_55 : decode cX6_weightOf 55 = .ok (.ifCond .lt 7, 3) := by decide +kernel
theorem dX6_weightOf_58 : decode cX6_weightOf 58 = .ok (.iconst 1, 1) := by decide +kernel
theorem dX6_weightOf_59 : decode cX6_weightOf 59 = .ok (.goto 4, 3) := by decide +kernel
theorem dX6_weightOf_62 : decode cX6_weightOf 62 = .ok (.iconst 0, 1) := by decide +kernel
theorem dX6_weightOf_63 : decode cX6_weightOf 63 = .ok (.iadd, 1) := by decide +kernel
theorem dX6_weightOf_64 : decode cX6_weightOf 64 = .ok (.iadd, 1) := by decide +kernel
theorem dX6_weightOf_65 : decode cX6_weightOf 65 = .ok (.istore_n 2, 1) := by decide +kernel
theorem dX6_weightOf_66 : decode cX6_weightOf 66 = .ok (.iinc 3 1, 3) := by decide +kernel
theorem dX6_weightOf_69 : decode cX6_weightOf 69 = .ok (.goto (-65), 3) := by decide +kernel
theorem dX6_weightOf_72 : decode cX6_weightOf 72 = .ok (.iload_n 2, 1) := by decide +kernel
theorem dX6_weightOf_73 : decode cX6_weightOf 73 = .ok (.ireturn, 1) := by decide +kernel
theorem dX6_placeOf_0 : decode cX6_placeOf 0 = .ok (.iconst 0, 1) := by decide +kernel
theorem dX6_placeOf_1 : decode cX6_placeOf 1 = .ok (.istore_n 2, 1) := by decide +kernel
theorem dX6_placeOf_2 : decode cX6_placeOf 2 = .ok (.iload_n 2, 1) := by decide +kernel
theorem dX6_placeOf_3 : decode cX6_placeOf 3 = .ok (.aload_n 0, 1) := by decide +kernel
theorem dX6_placeOf_4 : decode cX6_placeOf 4 = .ok (.getfield 78, 3) := by decide +kernel
theorem dX6_placeOf_7 : decode cX6_placeOf 7 = .ok (.if_icmp .ge 43, 3) := by decide +kernel
theorem dX6_placeOf_10 : decode cX6_placeOf 10 = .ok (.aload_n 0, 1) := by decide +kernel
theorem dX6_placeOf_11 : decode cX6_placeOf 11 = .ok (.getfield 46, 3) := by decide +kernel
theorem dX6_placeOf_14 : decode cX6_placeOf 14 = .ok (.iload_n 2, 1) := by decide +kernel
theorem dX6_placeOf_15 : decode cX6_placeOf 15 = .ok (.iaload, 1) := by decide +kernel
theorem dX6_placeOf_16 : decode cX6_placeOf 16 = .ok (.iload_n 1, 1) := by decide +kernel
theorem dX6_placeOf_17 : decode cX6_placeOf 17 = .ok (.if_icmp .ne 27, 3) := by decide +kernel
theorem dX6_placeOf_20 : decode cX6_placeOf 20 = .ok (.aload_n 0, 1) := by decide +kernel
theorem dX6_placeOf_21 : decode cX6_placeOf 21 = .ok (.iload_n 2, 1) := by decide +kernel
theorem dX6_placeOf_22 : decode cX6_placeOf 22 = .ok (.invokevirtual 121, 3) := by decide +kernel
theorem dX6_placeOf_25 : decode cX6_placeOf 25 = .ok (.ifCond .ne 19, 3) := by decide +kernel
theorem dX6_placeOf_28 : decode cX6_placeOf 28 = .ok (.aload_n 0, 1) := by decide +kernel
theorem dX6_placeOf_29 : decode cX6_placeOf 29 = .ok (.getfield 37, 3) := by decide +kernel
theorem dX6_placeOf_32 : decode cX6_placeOf 32 = .ok (.iload_n 2, 1) := by decide +kernel
theorem dX6_placeOf_33 : decode cX6_placeOf 33 = .ok (.iaload, 1) := by decide +kernel
theorem dX6_placeOf_34 : decode cX6_placeOf 34 = .ok (.ifCond .lt 10, 3) := by decide +kernel
theorem dX6_placeOf_37 : decode cX6_placeOf 37 = .ok (.aload_n 0, 1) := by decide +kernel
theorem dX6_placeOf_38 : decode cX6_placeOf 38 = .ok (.getfield 37, 3) := by decide +kernel
theorem dX6_placeOf_41 : decode cX6_placeOf 41 = .ok (.iload_n 2, 1) := by decide +kernel
theorem dX6_placeOf_42 : decode cX6_placeOf 42 = .ok (.iaload, 1) := by decide +kernel
theorem dX6_placeOf_43 : decode cX6_placeOf 43 = .ok (.ireturn, 1) := by decide +kernel
theorem dX6_placeOf_44 : decode cX6_placeOf 44 = .ok (.iinc 2 1, 3) := by decide +kernel
theorem dX6_placeOf_47 : decode cX6_placeOf 47 = .ok (.goto (-45), 3) := by decide +kernel
theorem dX6_placeOf_50 : decode cX6_placeOf 50 = .ok (.iconst (-1), 1) := by decide +kernel
theorem dX6_placeOf_51 : decode cX6_placeOf 51 = .ok (.ireturn, 1) := by decide +kernel
theorem dX6_latestOf_0 : decode cX6_latestOf 0 = .ok (.iconst (-1), 1) := by decide +kernel
theorem dX6_latestOf_1 : decode cX6_latestOf 1 = .ok (.istore_n 2, 1) := by decide +kernel
theorem dX6_latestOf_2 : decode cX6_latestOf 2 = .ok (.iconst 0, 1) := by decide +kernel
theorem dX6_latestOf_3 : decode cX6_latestOf 3 = .ok (.istore_n 3, 1) := by decide +kernel
theorem dX6_latestOf_4 : decode cX6_latestOf 4 = .ok (.iload_n 3, 1) := by decide +kernel
theorem dX6_latestOf_5 : decode cX6_latestOf 5 = .ok (.aload_n 0, 1) := by decide +kernel
theorem dX6_latestOf_6 : decode cX6_latestOf 6 = .ok (.getfield 78, 3) := by decide +kernel
theorem dX6_latestOf_9 : decode cX6_latestOf 9 = .ok (.if_icmp .ge 30, 3) := by decide +kernel
theorem dX6_latestOf_12 : decode cX6_latestOf 12 = .ok (.aload_n 0, 1) := by decide +kernel
theorem dX6_latestOf_13 : decode cX6_latestOf 13 = .ok (.getfield 46, 3) := by decide +kernel
theorem dX6_latestOf_16 : decode cX6_latestOf 16 = .ok (.iload_n 3, 1) := by decide +kernel
theorem dX6_latestOf_17 : decode cX6_latestOf 17 = .ok (.iaload, 1) := by decide +kernel
theorem dX6_latestOf_18 : decode cX6_latestOf 18 = .ok (.iload_n 1, 1) := by decide +kernel
theorem dX6_latestOf_19 : decode cX6_latestOf 19 = .ok (.if_icmp .ne 12, 3) := by decide +kernel
theorem dX6_latestOf_22 : decode cX6_latestOf 22 = .ok (.aload_n 0, 1) := by decide +kernel
theorem dX6_latestOf_23 : decode cX6_latestOf 23 = .ok (.getfield 43, 3) := by decide +kernel
theorem dX6_latestOf_26 : decode cX6_latestOf 26 = .ok (.iload_n 3, 1) := by decide +kernel
theorem dX6_latestOf_27 : decode cX6_latestOf 27 = .ok (.iaload, 1) := by decide +kernel
theorem dX6_latestOf_28 : decode cX6_latestOf 28 = .ok (.goto 4, 3) := by decide +kernel
theorem dX6_latestOf_31 : decode cX6_latestOf 31 = .ok (.iload_n 2, 1) := by decide +kernel
theorem dX6_latestOf_32 : decode cX6_latestOf 32 = .ok (.istore_n 2, 1) := by decide +kernel
theorem dX6_latestOf_33 : decode cX6_latestOf 33 = .ok (.iinc 3 1, 3) := by decide +kernel
theorem dX6_latestOf_36 : decode cX6_latestOf 36 = .ok (.goto (-32), 3) := by decide +kernel
theorem dX6_latestOf_39 : decode cX6_latestOf 39 = .ok (.iload_n 2, 1) := by decide +kernel
theorem dX6_latestOf_40 : decode cX6_latestOf 40 = .ok (.ireturn, 1) := by decide +kernel
theorem dX6_eventAt_0 : decode cX6_eventAt 0 = .ok (.aload_n 0, 1) := by decide +kernel
theorem dX6_eventAt_1 : decode cX6_eventAt 1 = .ok (.aload_n 0, 1) := by decide +kernel
theorem dX6_eventAt_2 : decode cX6_eventAt 2 = .ok (.iload_n 1, 1) := by decide +kernel
theorem dX6_eventAt_3 : decode cX6_eventAt 3 = .ok (.invokevirtual 170, 3) := by decide +kernel
theorem dX6_eventAt_6 : decode cX6_eventAt 6 = .ok (.ifCond .eq 13, 3) := by decide +kernel
theorem dX6_eventAt_9 : decode cX6_eventAt 9 = .ok (.iload_n 2, 1) := by decide +kernel
theorem dX6_eventAt_10 : decode cX6_eventAt 10 = .ok (.iconst 0, 1) := by decide +kernel
theorem dX6_eventAt_11 : decode cX6_eventAt 11 = .ok (.bipush 6, 2) := by decide +kernel
theorem dX6_eventAt_13 : decode cX6_eventAt 13 = .ok (.invokestatic 74, 3) := by decide +kernel
theorem dX6_eventAt_16 : decode cX6_eventAt 16 = .ok (.ifCond .ne 7, 3) := by decide +kernel
theorem dX6_eventAt_19 : decode cX6_eventAt 19 = .ok (.iconst 1, 1) := by decide +kernel
theorem dX6_eventAt_20 : decode cX6_eventAt 20 = .ok (.goto 4, 3) := by decide +kernel
theorem dX6_eventAt_23 : decode cX6_eventAt 23 = .ok (.iconst 0, 1) := by decide +kernel
theorem dX6_eventAt_24 : decode cX6_eventAt 24 = .ok (.iconst 0, 1) := by decide +kernel
theorem dX6_eventAt_25 : decode cX6_eventAt 25 = .ok (.iconst 0, 1) := by decide +kernel
theorem dX6_eventAt_26 : decode cX6_eventAt 26 = .ok (.invokevirtual 90, 3) := by decide +kernel
theorem dX6_eventAt_29 : decode cX6_eventAt 29 = .ok (.ifCond .eq 5, 3) := by decide +kernel
theorem dX6_eventAt_32 : decode cX6_eventAt 32 = .ok (.iconst 0, 1) := by decide +kernel
theorem dX6_eventAt_33 : decode cX6_eventAt 33 = .ok (.ireturn, 1) := by decide +kernel
theorem dX6_eventAt_34 : decode cX6_eventAt 34 = .ok (.aload_n 0, 1) := by decide +kernel
theorem dX6_eventAt_35 : decode cX6_eventAt 35 = .ok (.iload_n 1, 1) := by decide +kernel
theorem dX6_eventAt_36 : decode cX6_eventAt 36 = .ok (.invokevirtual 124, 3) := by decide +kernel
theorem dX6_eventAt_39 : decode cX6_eventAt 39 = .ok (.istore_n 3, 1) := by decide +kernel
theorem dX6_eventAt_40 : decode cX6_eventAt 40 = .ok (.iload_n 2, 1) := by decide +kernel
theorem dX6_eventAt_41 : decode cX6_eventAt 41 = .ok (.tableswitch 81 0 5 #[39, 46, 52, 67, 73, 79], 39) := by decide +kernel
theorem dX6_eventAt_80 : decode cX6_eventAt 80 = .ok (.aload_n 0, 1) := by decide +kernel
theorem dX6_eventAt_81 : decode cX6_eventAt 81 = .ok (.getfield 58, 3) := by decide +kernel
theorem dX6_eventAt_84 : decode cX6_eventAt 84 = .ok (.iload_n 1, 1) := by decide +kernel
theorem dX6_eventAt_85 : decode cX6_eventAt 85 = .ok (.iaload, 1) := by decide +kernel
theorem dX6_eventAt_86 : decode cX6_eventAt 86 = .ok (.ireturn, 1) := by decide +kernel
theorem dX6_eventAt_87 : decode cX6_eventAt 87 = .ok (.aload_n 0, 1) := by decide +kernel
theorem dX6_eventAt_88 : decode cX6_eventAt 88 = .ok (.iload_n 1, 1) := by decide +kernel
theorem dX6_eventAt_89 : decode cX6_eventAt 89 = .ok (.invokevirtual 173, 3) := by decide +kernel
theorem dX6_eventAt_92 : decode cX6_eventAt 92 = .ok (.ireturn, 1) := by decide +kernel
theorem dX6_eventAt_93 : decode cX6_eventAt 93 = .ok (.iload_n 3, 1) := by decide +kernel
theorem dX6_eventAt_94 : decode cX6_eventAt 94 = .ok (.ifCond .ge 7, 3) := by decide +kernel
theorem dX6_eventAt_97 : decode cX6_eventAt 97 = .ok (.iconst (-1), 1) := by decide +kernel
theorem dX6_eventAt_98 : decode cX6_eventAt 98 = .ok (.goto 9, 3) := by decide +kernel
theorem dX6_eventAt_101 : decode cX6_eventAt 101 = .ok (.aload_n 0, 1) := by decide +kernel
theorem dX6_eventAt_102 : decode cX6_eventAt 102 = .ok (.getfield 34, 3) := by decide +kernel
theorem dX6_eventAt_105 : decode cX6_eventAt 105 = .ok (.iload_n 3, 1) := by decide +kernel
theorem dX6_eventAt_106 : decode cX6_eventAt 106 = .ok (.iaload, 1) := by decide +kernel
theorem dX6_eventAt_107 : decode cX6_eventAt 107 = .ok (.ireturn, 1) := by decide +kernel
theorem dX6_eventAt_108 : decode cX6_eventAt 108 = .ok (.aload_n 0, 1) := by decide +kernel
theorem dX6_eventAt_109 : decode cX6_eventAt 109 = .ok (.iload_n 1, 1) := by decide +kernel
theorem dX6_eventAt_110 : decode cX6_eventAt 110 = .ok (.invokevirtual 176, 3) := by decide +kernel
theorem dX6_eventAt_113 : decode cX6_eventAt 113 = .ok (.ireturn, 1) := by decide +kernel
theorem dX6_eventAt_114 : decode cX6_eventAt 114 = .ok (.aload_n 0, 1) := by decide +kernel
theorem dX6_eventAt_115 : decode cX6_eventAt 115 = .ok (.iload_n 1, 1) := by decide +kernel
theorem dX6_eventAt_116 : decode cX6_eventAt 116 = .ok (.invokevirtual 179, 3) := by decide +kernel
theorem dX6_eventAt_119 : decode cX6_eventAt 119 = .ok (.ireturn, 1) := by decide +kernel
theorem dX6_eventAt_120 : decode cX6_eventAt 120 = .ok (.iload_n 3, 1) := by decide +kernel
theorem dX6_eventAt_121 : decode cX6_eventAt 121 = .ok (.ireturn, 1) := by decide +kernel
theorem dX6_eventAt_122 : decode cX6_eventAt 122 = .ok (.aload_n 0, 1) := by decide +kernel
theorem dX6_eventAt_123 : decode cX6_eventAt 123 = .ok (.iload_n 1, 1) := by decide +kernel
theorem dX6_eventAt_124 : decode cX6_eventAt 124 = .ok (.invokevirtual 182, 3) := by decide +kernel
theorem dX6_eventAt_127 : decode cX6_eventAt 127 = .ok (.ireturn, 1) := by decide +kernel
theorem dX6_member_0 : decode cX6_member 0 = .ok (.aload_n 0, 1) := by decide +kernel
theorem dX6_member_1 : decode cX6_member 1 = .ok (.iload_n 1, 1) := by decide +kernel
theorem dX6_member_2 : decode cX6_member 2 = .ok (.invokevirtual 170, 3) := by decide +kernel
theorem dX6_member_5 : decode cX6_member 5 = .ok (.istore_n 3, 1) := by decide +kernel
theorem dX6_member_6 : decode cX6_member 6 = .ok (.aload_n 0, 1) := by decide +kernel
theorem dX6_member_7 : decode cX6_member 7 = .ok (.iload_n 3, 1) := by decide +kernel
theorem dX6_member_8 : decode cX6_member 8 = .ok (.ifCond .ne 7, 3) := by decide +kernel
theorem dX6_member_11 : decode cX6_member 11 = .ok (.iconst 1, 1) := by decide +kernel
theorem dX6_member_12 : decode cX6_member 12 = .ok (.goto 4, 3) := by decide +kernel
theorem dX6_member_15 : decode cX6_member 15 = .ok (.iconst 0, 1) := by decide +kernel
theorem dX6_member_16 : decode cX6_member 16 = .ok (.iload_n 3, 1) := by decide +kernel
theorem dX6_member_17 : decode cX6_member 17 = .ok (.ifCond .eq 22, 3) := by decide +kernel
theorem dX6_member_20 : decode cX6_member 20 = .ok (.iload_n 2, 1) := by decide +kernel
theorem dX6_member_21 : decode cX6_member 21 = .ok (.iconst 0, 1) := by decide +kernel
theorem dX6_member_22 : decode cX6_member 22 = .ok (.aload_n 0, 1) := by decide +kernel
theorem dX6_member_23 : decode cX6_member 23 = .ok (.iload_n 1, 1) := by decide +kernel
theorem dX6_member_24 : decode cX6_member 24 = .ok (.invokevirtual 173, 3) := by decide +kernel
theorem dX6_member_27 : decode cX6_member 27 = .ok (.iconst 1, 1) := by decide +kernel
theorem dX6_member_28 : decode cX6_member 28 = .ok (.isub, 1) := by decide +kernel
theorem dX6_member_29 : decode cX6_member 29 = .ok (.invokestatic 74, 3) := by decide +kernel
theorem dX6_member_32 : decode cX6_member 32 = .ok (.ifCond .ne 7, 3) := by decide +kernel
theorem dX6_member_35 : decode cX6_member 35 = .ok (.iconst 1, 1) := by decide +kernel
theorem dX6_member_36 : decode cX6_member 36 = .ok (.goto 4, 3) := by decide +kernel
theorem dX6_member_39 : decode cX6_member 39 = .ok (.iconst 0, 1) := by decide +kernel
theorem dX6_member_40 : decode cX6_member 40 = .ok (.iconst 0, 1) := by decide +kernel
theorem dX6_member_41 : decode cX6_member 41 = .ok (.invokevirtual 90, 3) := by decide +kernel
theorem dX6_member_44 : decode cX6_member 44 = .ok (.ifCond .eq 5, 3) := by decide +kernel
theorem dX6_member_47 : decode cX6_member 47 = .ok (.iconst 0, 1) := by decide +kernel
theorem dX6_member_48 : decode cX6_member 48 = .ok (.ireturn, 1) := by decide +kernel
theorem dX6_member_49 : decode cX6_member 49 = .ok (.iload_n 2, 1) := by decide +kernel
theorem dX6_member_50 : decode cX6_member 50 = .ok (.istore 4, 2) := by decide +kernel
theorem dX6_member_52 : decode cX6_member 52 = .ok (.iconst 0, 1) := by decide +kernel
theorem dX6_member_53 : decode cX6_member 53 = .ok (.istore 5, 2) := by decide +kernel
theorem dX6_member_55 : decode cX6_member 55 = .ok (.iload 5, 2) := by decide +kernel
theorem dX6_member_57 : decode cX6_member 57 = .ok (.aload_n 0, 1) := by decide +kernel
theorem dX6_member_58 : decode cX6_member 58 = .ok (.getfield 78, 3) := by decide +kernel
theorem dX6_member_61 : decode cX6_member 61 = .ok (.if_icmp .ge 49, 3) := by decide +kernel
theorem dX6_member_64 : decode cX6_member 64 = .ok (.aload_n 0, 1) := by decide +kernel
theorem dX6_member_65 : decode cX6_member 65 = .ok (.getfield 46, 3) := by decide +kernel
theorem dX6_member_68 : decode cX6_member 68 = .ok (.iload 5, 2) := by decide +kernel
theorem dX6_member_70 : decode cX6_member 70 = .ok (.iaload, 1) := by decide +kernel
theorem dX6_member_71 : decode cX6_member 71 = .ok (.iload_n 1, 1) := by decide +kernel
theorem dX6_member_72 : decode cX6_member 72 = .ok (.if_icmp .ne 11, 3) := by decide +kernel
theorem dX6_member_75 : decode cX6_member 75 = .ok (.iload 4, 2) := by decide +kernel
theorem dX6_member_77 : decode cX6_member 77 = .ok (.ifCond .ne 6, 3) := by decide +kernel
theorem dX6_member_80 : decode cX6_member 80 = .ok (.iload 5, 2) := by decide +kernel
theorem dX6_member_82 : decode cX6_member 82 = .ok (.ireturn, 1) := by decide +kernel
theorem dX6_member_83 : decode cX6_member 83 = .ok (.iload 4, 2) := by decide +kernel
theorem dX6_member_85 : decode cX6_member 85 = .ok (.aload_n 0, 1) := by decide +kernel
theorem dX6_member_86 : decode cX6_member 86 = .ok (.getfield 46, 3) := by decide +kernel
theorem dX6_member_89 : decode cX6_member 89 = .ok (.iload 5, 2) := by decide +kernel
theorem dX6_member_91 : decode cX6_member 91 = .ok (.iaload, 1) := by decide +kernel
theorem dX6_member_92 : decode cX6_member 92 = .ok (.iload_n 1, 1) := by decide +kernel
theorem dX6_member_93 : decode cX6_member 93 = .ok (.if_icmp .ne 7, 3) := by decide +kernel
theorem dX6_member_96 : decode cX6_member 96 = .ok (.iconst 1, 1) := by decide +kernel
theorem dX6_member_97 : decode cX6_member 97 = .ok (.goto 4, 3) := by decide +kernel
theorem dX6_member_100 : decode cX6_member 100 = .ok (.iconst 0, 1) := by decide +kernel
theorem dX6_member_101 : decode cX6_member 101 = .ok (.isub, 1) := by decide +kernel
theorem dX6_member_102 : decode cX6_member 102 = .ok (.istore 4, 2) := by decide +kernel
theorem dX6_member_104 : decode cX6_member 104 = .ok (.iinc 5 1, 3) := by decide +kernel
theorem dX6_member_107 : decode cX6_member 107 = .ok (.goto (-52), 3) := by decide +kernel
theorem dX6_member_110 : decode cX6_member 110 = .ok (.iconst 0, 1) := by decide +kernel
theorem dX6_member_111 : decode cX6_member 111 = .ok (.ireturn, 1) := by decide +kernel
theorem dX6_count_0 : decode cX6_count 0 = .ok (.aload_n 0, 1) := by decide +kernel
theorem dX6_count_1 : decode cX6_count 1 = .ok (.iload_n 1, 1) := by decide +kernel
theorem dX6_count_2 : decode cX6_count 2 = .ok (.iconst 0, 1) := by decide +kernel
theorem dX6_count_3 : decode cX6_count 3 = .ok (.iconst 3, 1) := by decide +kernel
theorem dX6_count_4 : decode cX6_count 4 = .ok (.invokestatic 74, 3) := by decide +kernel
theorem dX6_count_7 : decode cX6_count 7 = .ok (.ifCond .ne 7, 3) := by decide +kernel
theorem dX6_count_10 : decode cX6_count 10 = .ok (.iconst 1, 1) := by decide +kernel
theorem dX6_count_11 : decode cX6_count 11 = .ok (.goto 4, 3) := by decide +kernel
theorem dX6_count_14 : decode cX6_count 14 = .ok (.iconst 0, 1) := by decide +kernel
theorem dX6_count_15 : decode cX6_count 15 = .ok (.iconst 0, 1) := by decide +kernel
theorem dX6_count_16 : decode cX6_count 16 = .ok (.iconst 0, 1) := by decide +kernel
theorem dX6_count_17 : decode cX6_count 17 = .ok (.invokevirtual 90, 3) := by decide +kernel
theorem dX6_count_20 : decode cX6_count 20 = .ok (.ifCond .eq 5, 3) := by decide +kernel
theorem dX6_count_23 : decode cX6_count 23 = .ok (.iconst 0, 1) := by decide +kernel
theorem dX6_count_24 : decode cX6_count 24 = .ok (.ireturn, 1) := by decide +kernel
theorem dX6_count_25 : decode cX6_count 25 = .ok (.iload_n 1, 1) := by decide +kernel
theorem dX6_count_26 : decode cX6_count 26 = .ok (.iconst 2, 1) := by decide +kernel
theorem dX6_count_27 : decode cX6_count 27 = .ok (.if_icmp .ge 19, 3) := by decide +kernel
theorem dX6_count_30 : decode cX6_count 30 = .ok (.iload_n 1, 1) := by decide +kernel
theorem dX6_count_31 : decode cX6_count 31 = .ok (.ifCond .ne 10, 3) := by decide +kernel
theorem dX6_count_34 : decode cX6_count 34 = .ok (.aload_n 0, 1) := by decide +kernel
theorem dX6_count_35 : decode cX6_count 35 = .ok (.getfield 78, 3) := by decide +kernel
theorem dX6_count_38 : decode cX6_count 38 = .ok (.goto 7, 3) := by decide +kernel
theorem dX6_count_41 : decode cX6_count 41 = .ok (.aload_n 0, 1) := by decide +kernel
theorem dX6_count_42 : decode cX6_count 42 = .ok (.getfield 81, 3) := by decide +kernel
theorem dX6_count_45 : decode cX6_count 45 = .ok (.ireturn, 1) := by decide +kernel
theorem dX6_count_46 : decode cX6_count 46 = .ok (.iconst 0, 1) := by decide +kernel
theorem dX6_count_47 : decode cX6_count 47 = .ok (.istore_n 2, 1) := by decide +kernel
theorem dX6_count_48 : decode cX6_count 48 = .ok (.iconst 0, 1) := by decide +kernel
theorem dX6_count_49 : decode cX6_count 49 = .ok (.istore_n 3, 1) := by decide +kernel
theorem dX6_count_50 : decode cX6_count 50 = .ok (.iload_n 3, 1) := by decide +kernel
theorem dX6_count_51 : decode cX6_count 51 = .ok (.aload_n 0, 1) := by decide +kernel
theorem dX6_count_52 : decode cX6_count 52 = .ok (.getfield 81, 3) := by decide +kernel
theorem dX6_count_55 : decode cX6_count 55 = .ok (.if_icmp .ge 31, 3) := by decide +kernel
theorem dX6_count_58 : decode cX6_count 58 = .ok (.iload_n 1, 1) := by decide +kernel
theorem dX6_count_59 : decode cX6_count 59 = .ok (.iconst 2, 1) := by decide +kernel
theorem dX6_count_60 : decode cX6_count 60 = .ok (.if_icmp .ne 26, 3) := by decide +kernel
theorem dX6_count_63 : decode cX6_count 63 = .ok (.iload_n 2, 1) := by decide +kernel
theorem dX6_count_64 : decode cX6_count 64 = .ok (.aload_n 0, 1) := by decide +kernel
theorem dX6_count_65 : decode cX6_count 65 = .ok (.getfield 58, 3) := by decide +kernel
theorem dX6_count_68 : decode cX6_count 68 = .ok (.iload_n 3, 1) := by decide +kernel
theorem dX6_count_69 : decode cX6_count 69 = .ok (.iaload, 1) := by decide +kernel
theorem dX6_count_70 : decode cX6_count 70 = .ok (.ifCond .ne 7, 3) := by decide +kernel
theorem dX6_count_73 : decode cX6_count 73 = .ok (.iconst 1, 1) := by decide +kernel
theorem dX6_count_74 : decode cX6_count 74 = .ok (.goto 4, 3) := by decide +kernel
theorem dX6_count_77 : decode cX6_count 77 = .ok (.iconst 0, 1) := by decide +kernel
theorem dX6_count_78 : decode cX6_count 78 = .ok (.iadd, 1) := by decide +kernel
theorem dX6_count_79 : decode cX6_count 79 = .ok (.istore_n 2, 1) := by decide +kernel
theorem dX6_count_80 : decode cX6_count 80 = .ok (.iinc 3 1, 3) := by decide +kernel
theorem dX6_count_83 : decode cX6_count 83 = .ok (.goto (-33), 3) := by decide +kernel
theorem dX6_count_86 : decode cX6_count 86 = .ok (.iconst 0, 1) := by decide +kernel
theorem dX6_count_87 : decode cX6_count 87 = .ok (.istore_n 3, 1) := by decide +kernel
theorem dX6_count_88 : decode cX6_count 88 = .ok (.iload_n 3, 1) := by decide +kernel
theorem dX6_count_89 : decode cX6_count 89 = .ok (.aload_n 0, 1) := by decide +kernel
theorem dX6_count_90 : decode cX6_count 90 = .ok (.getfield 78, 3) := by decide +kernel
theorem dX6_count_93 : decode cX6_count 93 = .ok (.if_icmp .ge 30, 3) := by decide +kernel
theorem dX6_count_96 : decode cX6_count 96 = .ok (.iload_n 1, 1) := by decide +kernel
theorem dX6_count_97 : decode cX6_count 97 = .ok (.iconst 3, 1) := by decide +kernel
theorem dX6_count_98 : decode cX6_count 98 = .ok (.if_icmp .ne 25, 3) := by decide +kernel
theorem dX6_count_101 : decode cX6_count 101 = .ok (.iload_n 2, 1) := by decide +kernel
theorem dX6_count_102 : decode cX6_count 102 = .ok (.aload_n 0, 1) := by decide +kernel
theorem dX6_count_103 : decode cX6_count 103 = .ok (.iload_n 3, 1) := by decide +kernel
theorem dX6_count_104 : decode cX6_count 104 = .ok (.invokevirtual 121, 3) := by decide +kernel
theorem dX6_count_107 : decode cX6_count 107 = .ok (.ifCond .eq 7, 3) := by decide +kernel
theorem dX6_count_110 : decode cX6_count 110 = .ok (.iconst 1, 1) := by decide +kernel
theorem dX6_count_111 : decode cX6_count 111 = .ok (.goto 4, 3) := by decide +kernel
theorem dX6_count_114 : decode cX6_count 114 = .ok (.iconst 0, 1) := by decide +kernel
theorem dX6_count_115 : decode cX6_count 115 = .ok (.iadd, 1) := by decide +kernel
theorem dX6_count_116 : decode cX6_count 116 = .ok (.istore_n 2, 1) := by decide +kernel
theorem dX6_count_117 : decode cX6_count 117 = .ok (.iinc 3 1, 3) := by decide +kernel
theorem dX6_count_120 : decode cX6_count 120 = .ok (.goto (-32), 3) := by decide +kernel
theorem dX6_count_123 : decode cX6_count 123 = .ok (.iload_n 2, 1) := by decide +kernel
theorem dX6_count_124 : decode cX6_count 124 = .ok (.ireturn, 1) := by decide +kernel
theorem dX0_init_0 : decode cX0_init 0 = .ok (.aload_n 0, 1) := by decide +kernel
theorem dX0_init_1 : decode cX0_init 1 = .ok (.invokespecial 3, 3) := by decide +kernel
theorem dX0_init_4 : decode cX0_init 4 = .ok (.aload_n 0, 1) := by decide +kernel
theorem dX0_init_5 : decode cX0_init 5 = .ok (.iconst 0, 1) := by decide +kernel
theorem dX0_init_6 : decode cX0_init 6 = .ok (.putfield 9, 3) := by decide +kernel
theorem dX0_init_9 : decode cX0_init 9 = .ok (.aload_n 0, 1) := by decide +kernel
theorem dX0_init_10 : decode cX0_init 10 = .ok (.bipush 121, 2) := by decide +kernel
theorem dX0_init_12 : decode cX0_init 12 = .ok (.newarray .int, 2) := by decide +kernel
theorem dX0_init_14 : decode cX0_init 14 = .ok (.putfield 15, 3) := by decide +kernel
theorem dX0_init_17 : decode cX0_init 17 = .ok (.aload_n 0, 1) := by decide +kernel
theorem dX0_init_18 : decode cX0_init 18 = .ok (.bipush 121, 2) := by decide +kernel
theorem dX0_init_20 : decode cX0_init 20 = .ok (.newarray .int, 2) := by decide +kernel
theorem dX0_init_22 : decode cX0_init 22 = .ok (.putfield 19, 3) := by decide +kernel
theorem dX0_init_25 : decode cX0_init 25 = .ok (.aload_n 0, 1) := by decide +kernel
theorem dX0_init_26 : decode cX0_init 26 = .ok (.bipush 121, 2) := by decide +kernel
theorem dX0_init_28 : decode cX0_init 28 = .ok (.newarray .int, 2) := by decide +kernel
theorem dX0_init_30 : decode cX0_init 30 = .ok (.putfield 22, 3) := by decide +kernel
theorem dX0_init_33 : decode cX0_init 33 = .ok (.aload_n 0, 1) := by decide +kernel
theorem dX0_init_34 : decode cX0_init 34 = .ok (.bipush 121, 2) := by decide +kernel
theorem dX0_init_36 : decode cX0_init 36 = .ok (.newarray .int, 2) := by decide +kernel
theorem dX0_init_38 : decode cX0_init 38 = .ok (.putfield 25, 3) := by decide +kernel
end
section
theorem dX0_init_41 : decode cX0_init 41 = .ok (.aload_n 0, 1) := by decide +kernel
theorem dX0_init_42 : decode cX0_init 42 = .ok (.bipush 121, 2) := by decide +kernel
theorem dX0_init_44 : decode cX0_init 44 = .ok (.newarray .int, 2) := by decide +kernel
theorem dX0_init_46 : decode cX0_init 46 = .ok (.putfield 28, 3) := by decide +kernel
theorem dX0_init_49 : decode cX0_init 49 = .ok (.aload_n 0, 1) := by decide +kernel
theorem dX0_init_50 : decode cX0_init 50 = .ok (.bipush 121, 2) := by decide +kernel
theorem dX0_init_52 : decode cX0_init 52 = .ok (.newarray .int, 2) := by decide +kernel
theorem dX0_init_54 : decode cX0_init 54 = .ok (.putfield 31, 3) := by decide +kernel
theorem dX0_init_57 : decode cX0_init 57 = .ok (.aload_n 0, 1) := by decide +kernel
theorem dX0_init_58 : decode cX0_init 58 = .ok (.bipush 121, 2) := by decide +kernel
theorem dX0_init_60 : decode cX0_init 60 = .ok (.newarray .int, 2) := by decide +kernel
theorem dX0_init_62 : decode cX0_init 62 = .ok (.putfield 34, 3) := by decide +kernel
theorem dX0_init_65 : decode cX0_init 65 = .ok (.aload_n 0, 1) := by decide +kernel
theorem dX0_init_66 : decode cX0_init 66 = .ok (.bipush 121, 2) := by decide +kernel
theorem dX0_init_68 : decode cX0_init 68 = .ok (.newarray .int, 2) := by decide +kernel
theorem dX0_init_70 : decode cX0_init 70 = .ok (.putfield 37, 3) := by decide +kernel
theorem dX0_init_73 : decode cX0_init 73 = .ok (.aload_n 0, 1) := by decide +kernel
theorem dX0_init_74 : decode cX0_init 74 = .ok (.bipush 121, 2) := by decide +kernel
theorem dX0_init_76 : decode cX0_init 76 = .ok (.newarray .int, 2) := by decide +kernel
theorem dX0_init_78 : decode cX0_init 78 = .ok (.putfield 40, 3) := by decide +kernel
theorem dX0_init_81 : decode cX0_init 81 = .ok (.aload_n 0, 1) := by decide +kernel
theorem dX0_init_82 : decode cX0_init 82 = .ok (.bipush 121, 2) := by decide +kernel
theorem dX0_init_84 : decode cX0_init 84 = .ok (.newarray .int, 2) := by decide +kernel
theorem dX0_init_86 : decode cX0_init 86 = .ok (.putfield 43, 3) := by decide +kernel
theorem dX0_init_89 : decode cX0_init 89 = .ok (.return_, 1) := by decide +kernel
theorem dX0_draft_0 : decode cX0_draft 0 = .ok (.aload_n 0, 1) := by decide +kernel
theorem dX0_draft_1 : decode cX0_draft 1 = .ok (.getfield 15, 3) := by decide +kernel
theorem dX0_draft_4 : decode cX0_draft 4 = .ok (.aload_n 0, 1) := by decide +kernel
theorem dX0_draft_5 : decode cX0_draft 5 = .ok (.getfield 9, 3) := by decide +kernel
theorem dX0_draft_8 : decode cX0_draft 8 = .ok (.iload_n 1, 1) := by decide +kernel
theorem dX0_draft_9 : decode cX0_draft 9 = .ok (.iastore, 1) := by decide +kernel
theorem dX0_draft_10 : decode cX0_draft 10 = .ok (.aload_n 0, 1) := by decide +kernel
theorem dX0_draft_11 : decode cX0_draft 11 = .ok (.getfield 19, 3) := by decide +kernel
theorem dX0_draft_14 : decode cX0_draft 14 = .ok (.aload_n 0, 1) := by decide +kernel
theorem dX0_draft_15 : decode cX0_draft 15 = .ok (.getfield 9, 3) := by decide +kernel
theorem dX0_draft_18 : decode cX0_draft 18 = .ok (.iload_n 2, 1) := by decide +kernel
theorem dX0_draft_19 : decode cX0_draft 19 = .ok (.iastore, 1) := by decide +kernel
theorem dX0_draft_20 : decode cX0_draft 20 = .ok (.aload_n 0, 1) := by decide +kernel
theorem dX0_draft_21 : decode cX0_draft 21 = .ok (.getfield 22, 3) := by decide +kernel
theorem dX0_draft_24 : decode cX0_draft 24 = .ok (.aload_n 0, 1) := by decide +kernel
theorem dX0_draft_25 : decode cX0_draft 25 = .ok (.getfield 9, 3) := by decide +kernel
theorem dX0_draft_28 : decode cX0_draft 28 = .ok (.iload_n 3, 1) := by decide +kernel
theorem dX0_draft_29 : decode cX0_draft 29 = .ok (.iastore, 1) := by decide +kernel
theorem dX0_draft_30 : decode cX0_draft 30 = .ok (.aload_n 0, 1) := by decide +kernel
theorem dX0_draft_31 : decode cX0_draft 31 = .ok (.getfield 25, 3) := by decide +kernel
theorem dX0_draft_34 : decode cX0_draft 34 = .ok (.aload_n 0, 1) := by decide +kernel
theorem dX0_draft_35 : decode cX0_draft 35 = .ok (.getfield 9, 3) := by decide +kernel
theorem dX0_draft_38 : decode cX0_draft 38 = .ok (.iload 4, 2) := by decide +kernel
theorem dX0_draft_40 : decode cX0_draft 40 = .ok (.iastore, 1) := by decide +kernel
theorem dX0_draft_41 : decode cX0_draft 41 = .ok (.aload_n 0, 1) := by decide +kernel
theorem dX0_draft_42 : decode cX0_draft 42 = .ok (.getfield 28, 3) := by decide +kernel
theorem dX0_draft_45 : decode cX0_draft 45 = .ok (.aload_n 0, 1) := by decide +kernel
theorem dX0_draft_46 : decode cX0_draft 46 = .ok (.getfield 9, 3) := by decide +kernel
theorem dX0_draft_49 : decode cX0_draft 49 = .ok (.iload 5, 2) := by decide +kernel
theorem dX0_draft_51 : decode cX0_draft 51 = .ok (.iastore, 1) := by decide +kernel
theorem dX0_draft_52 : decode cX0_draft 52 = .ok (.aload_n 0, 1) := by decide +kernel
theorem dX0_draft_53 : decode cX0_draft 53 = .ok (.getfield 31, 3) := by decide +kernel
theorem dX0_draft_56 : decode cX0_draft 56 = .ok (.aload_n 0, 1) := by decide +kernel
theorem dX0_draft_57 : decode cX0_draft 57 = .ok (.getfield 9, 3) := by decide +kernel
theorem dX0_draft_60 : decode cX0_draft 60 = .ok (.iload 6, 2) := by decide +kernel
theorem dX0_draft_62 : decode cX0_draft 62 = .ok (.iastore, 1) := by decide +kernel
theorem dX0_draft_63 : decode cX0_draft 63 = .ok (.aload_n 0, 1) := by decide +kernel
theorem dX0_draft_64 : decode cX0_draft 64 = .ok (.getfield 37, 3) := by decide +kernel
theorem dX0_draft_67 : decode cX0_draft 67 = .ok (.aload_n 0, 1) := by decide +kernel
theorem dX0_draft_68 : decode cX0_draft 68 = .ok (.getfield 9, 3) := by decide +kernel
theorem dX0_draft_71 : decode cX0_draft 71 = .ok (.iconst (-1), 1) := by decide +kernel
theorem dX0_draft_72 : decode cX0_draft 72 = .ok (.iastore, 1) := by decide +kernel
theorem dX0_draft_73 : decode cX0_draft 73 = .ok (.aload_n 0, 1) := by decide +kernel
theorem dX0_draft_74 : decode cX0_draft 74 = .ok (.getfield 40, 3) := by decide +kernel
theorem dX0_draft_77 : decode cX0_draft 77 = .ok (.aload_n 0, 1) := by decide +kernel
theorem dX0_draft_78 : decode cX0_draft 78 = .ok (.getfield 9, 3) := by decide +kernel
theorem dX0_draft_81 : decode cX0_draft 81 = .ok (.iconst 0, 1) := by decide +kernel
theorem dX0_draft_82 : decode cX0_draft 82 = .ok (.iastore, 1) := by decide +kernel
theorem dX0_draft_83 : decode cX0_draft 83 = .ok (.aload_n 0, 1) := by decide +kernel
theorem dX0_draft_84 : decode cX0_draft 84 = .ok (.getfield 43, 3) := by decide +kernel
theorem dX0_draft_87 : decode cX0_draft 87 = .ok (.aload_n 0, 1) := by decide +kernel
theorem dX0_draft_88 : decode cX0_draft 88 = .ok (.getfield 9, 3) := by decide +kernel
theorem dX0_draft_91 : decode cX0_draft 91 = .ok (.iconst 0, 1) := by decide +kernel
theorem dX0_draft_92 : decode cX0_draft 92 = .ok (.iastore, 1) := by decide +kernel
theorem dX0_draft_93 : decode cX0_draft 93 = .ok (.aload_n 0, 1) := by decide +kernel
theorem dX0_draft_94 : decode cX0_draft 94 = .ok (.getfield 9, 3) := by decide +kernel
theorem dX0_draft_97 : decode cX0_draft 97 = .ok (.ireturn, 1) := by decide +kernel
theorem dX0_latestTime_0 : decode cX0_latestTime 0 = .ok (.aload_n 0, 1) := by decide +kernel
theorem dX0_latestTime_1 : decode cX0_latestTime 1 = .ok (.getfield 9, 3) := by decide +kernel
theorem dX0_latestTime_4 : decode cX0_latestTime 4 = .ok (.ifCond .ne 7, 3) := by decide +kernel
theorem dX0_latestTime_7 : decode cX0_latestTime 7 = .ok (.iconst 0, 1) := by decide +kernel
theorem dX0_latestTime_8 : decode cX0_latestTime 8 = .ok (.goto 14, 3) := by decide +kernel
theorem dX0_latestTime_11 : decode cX0_latestTime 11 = .ok (.aload_n 0, 1) := by decide +kernel
theorem dX0_latestTime_12 : decode cX0_latestTime 12 = .ok (.getfield 31, 3) := by decide +kernel
theorem dX0_latestTime_15 : decode cX0_latestTime 15 = .ok (.aload_n 0, 1) := by decide +kernel
theorem dX0_latestTime_16 : decode cX0_latestTime 16 = .ok (.getfield 9, 3) := by decide +kernel
theorem dX0_latestTime_19 : decode cX0_latestTime 19 = .ok (.iconst 1, 1) := by decide +kernel
theorem dX0_latestTime_20 : decode cX0_latestTime 20 = .ok (.isub, 1) := by decide +kernel
theorem dX0_latestTime_21 : decode cX0_latestTime 21 = .ok (.iaload, 1) := by decide +kernel
theorem dX0_latestTime_22 : decode cX0_latestTime 22 = .ok (.ireturn, 1) := by decide +kernel
theorem dX0_isHoax_0 : decode cX0_isHoax 0 = .ok (.aload_n 0, 1) := by decide +kernel
theorem dX0_isHoax_1 : decode cX0_isHoax 1 = .ok (.getfield 43, 3) := by decide +kernel
theorem dX0_isHoax_4 : decode cX0_isHoax 4 = .ok (.iload_n 1, 1) := by decide +kernel
theorem dX0_isHoax_5 : decode cX0_isHoax 5 = .ok (.iaload, 1) := by decide +kernel
theorem dX0_isHoax_6 : decode cX0_isHoax 6 = .ok (.iconst 4, 1) := by decide +kernel
theorem dX0_isHoax_7 : decode cX0_isHoax 7 = .ok (.iand, 1) := by decide +kernel
theorem dX0_isHoax_8 : decode cX0_isHoax 8 = .ok (.ifCond .eq 7, 3) := by decide +kernel
theorem dX0_isHoax_11 : decode cX0_isHoax 11 = .ok (.iconst 1, 1) := by decide +kernel
theorem dX0_isHoax_12 : decode cX0_isHoax 12 = .ok (.goto 4, 3) := by decide +kernel
theorem dX0_isHoax_15 : decode cX0_isHoax 15 = .ok (.iconst 0, 1) := by decide +kernel
theorem dX0_isHoax_16 : decode cX0_isHoax 16 = .ok (.ireturn, 1) := by decide +kernel
theorem dX0_moveBranch_0 : decode cX0_moveBranch 0 = .ok (.iconst 0, 1) := by decide +kernel
theorem dX0_moveBranch_1 : decode cX0_moveBranch 1 = .ok (.istore_n 3, 1) := by decide +kernel
theorem dX0_moveBranch_2 : decode cX0_moveBranch 2 = .ok (.iload_n 3, 1) := by decide +kernel
theorem dX0_moveBranch_3 : decode cX0_moveBranch 3 = .ok (.aload_n 0, 1) := by decide +kernel
theorem dX0_moveBranch_4 : decode cX0_moveBranch 4 = .ok (.getfield 9, 3) := by decide +kernel
theorem dX0_moveBranch_7 : decode cX0_moveBranch 7 = .ok (.if_icmp .ge 25, 3) := by decide +kernel
theorem dX0_moveBranch_10 : decode cX0_moveBranch 10 = .ok (.aload_n 0, 1) := by decide +kernel
theorem dX0_moveBranch_11 : decode cX0_moveBranch 11 = .ok (.iload_n 3, 1) := by decide +kernel
theorem dX0_moveBranch_12 : decode cX0_moveBranch 12 = .ok (.iload_n 1, 1) := by decide +kernel
theorem dX0_moveBranch_13 : decode cX0_moveBranch 13 = .ok (.invokevirtual 46, 3) := by decide +kernel
theorem dX0_moveBranch_16 : decode cX0_moveBranch 16 = .ok (.ifCond .eq 10, 3) := by decide +kernel
theorem dX0_moveBranch_19 : decode cX0_moveBranch 19 = .ok (.aload_n 0, 1) := by decide +kernel
theorem dX0_moveBranch_20 : decode cX0_moveBranch 20 = .ok (.getfield 34, 3) := by decide +kernel
theorem dX0_moveBranch_23 : decode cX0_moveBranch 23 = .ok (.iload_n 3, 1) := by decide +kernel
theorem dX0_moveBranch_24 : decode cX0_moveBranch 24 = .ok (.iload_n 2, 1) := by decide +kernel
theorem dX0_moveBranch_25 : decode cX0_moveBranch 25 = .ok (.iastore, 1) := by decide +kernel
theorem dX0_moveBranch_26 : decode cX0_moveBranch 26 = .ok (.iinc 3 1, 3) := by decide +kernel
theorem dX0_moveBranch_29 : decode cX0_moveBranch 29 = .ok (.goto (-27), 3) := by decide +kernel
theorem dX0_moveBranch_32 : decode cX0_moveBranch 32 = .ok (.return_, 1) := by decide +kernel
theorem dX0_isUnder_0 : decode cX0_isUnder 0 = .ok (.iload_n 1, 1) := by decide +kernel
theorem dX0_isUnder_1 : decode cX0_isUnder 1 = .ok (.istore_n 3, 1) := by decide +kernel
theorem dX0_isUnder_2 : decode cX0_isUnder 2 = .ok (.iconst 0, 1) := by decide +kernel
theorem dX0_isUnder_3 : decode cX0_isUnder 3 = .ok (.istore 4, 2) := by decide +kernel
theorem dX0_isUnder_5 : decode cX0_isUnder 5 = .ok (.iload 4, 2) := by decide +kernel
theorem dX0_isUnder_7 : decode cX0_isUnder 7 = .ok (.bipush 120, 2) := by decide +kernel
theorem dX0_isUnder_9 : decode cX0_isUnder 9 = .ok (.if_icmp .ge 28, 3) := by decide +kernel
theorem dX0_isUnder_12 : decode cX0_isUnder 12 = .ok (.iload_n 3, 1) := by decide +kernel
theorem dX0_isUnder_13 : decode cX0_isUnder 13 = .ok (.iconst (-1), 1) := by decide +kernel
theorem dX0_isUnder_14 : decode cX0_isUnder 14 = .ok (.if_icmp .eq 23, 3) := by decide +kernel
theorem dX0_isUnder_17 : decode cX0_isUnder 17 = .ok (.iload_n 3, 1) := by decide +kernel
theorem dX0_isUnder_18 : decode cX0_isUnder 18 = .ok (.iload_n 2, 1) := by decide +kernel
theorem dX0_isUnder_19 : decode cX0_isUnder 19 = .ok (.if_icmp .ne 5, 3) := by decide +kernel
theorem dX0_isUnder_22 : decode cX0_isUnder 22 = .ok (.iconst 1, 1) := by decide +kernel
theorem dX0_isUnder_23 : decode cX0_isUnder 23 = .ok (.ireturn, 1) := by decide +kernel
theorem dX0_isUnder_24 : decode cX0_isUnder 24 = .ok (.aload_n 0, 1) := by decide +kernel
theorem dX0_isUnder_25 : decode cX0_isUnder 25 = .ok (.getfield 37, 3) := by decide +kernel
theorem dX0_isUnder_28 : decode cX0_isUnder 28 = .ok (.iload_n 3, 1) := by decide +kernel
theorem dX0_isUnder_29 : decode cX0_isUnder 29 = .ok (.iaload, 1) := by decide +kernel
theorem dX0_isUnder_30 : decode cX0_isUnder 30 = .ok (.istore_n 3, 1) := by decide +kernel
theorem dX0_isUnder_31 : decode cX0_isUnder 31 = .ok (.iinc 4 1, 3) := by decide +kernel
theorem dX0_isUnder_34 : decode cX0_isUnder 34 = .ok (.goto (-29), 3) := by decide +kernel
theorem dX0_isUnder_37 : decode cX0_isUnder 37 = .ok (.iconst 0, 1) := by decide +kernel
theorem dX0_isUnder_38 : decode cX0_isUnder 38 = .ok (.ireturn, 1) := by decide +kernel
theorem dX0_moveAll_0 : decode cX0_moveAll 0 = .ok (.iconst 0, 1) := by decide +kernel
theorem dX0_moveAll_1 : decode cX0_moveAll 1 = .ok (.istore_n 3, 1) := by decide +kernel
theorem dX0_moveAll_2 : decode cX0_moveAll 2 = .ok (.iload_n 3, 1) := by decide +kernel
theorem dX0_moveAll_3 : decode cX0_moveAll 3 = .ok (.aload_n 0, 1) := by decide +kernel
theorem dX0_moveAll_4 : decode cX0_moveAll 4 = .ok (.getfield 9, 3) := by decide +kernel
theorem dX0_moveAll_7 : decode cX0_moveAll 7 = .ok (.if_icmp .ge 26, 3) := by decide +kernel
theorem dX0_moveAll_10 : decode cX0_moveAll 10 = .ok (.aload_n 0, 1) := by decide +kernel
theorem dX0_moveAll_11 : decode cX0_moveAll 11 = .ok (.getfield 34, 3) := by decide +kernel
theorem dX0_moveAll_14 : decode cX0_moveAll 14 = .ok (.iload_n 3, 1) := by decide +kernel
theorem dX0_moveAll_15 : decode cX0_moveAll 15 = .ok (.iaload, 1) := by decide +kernel
theorem dX0_moveAll_16 : decode cX0_moveAll 16 = .ok (.iload_n 1, 1) := by decide +kernel
theorem dX0_moveAll_17 : decode cX0_moveAll 17 = .ok (.if_icmp .ne 10, 3) := by decide +kernel
theorem dX0_moveAll_20 : decode cX0_moveAll 20 = .ok (.aload_n 0, 1) := by decide +kernel
theorem dX0_moveAll_21 : decode cX0_moveAll 21 = .ok (.getfield 34, 3) := by decide +kernel
theorem dX0_moveAll_24 : decode cX0_moveAll 24 = .ok (.iload_n 3, 1) := by decide +kernel
theorem dX0_moveAll_25 : decode cX0_moveAll 25 = .ok (.iload_n 2, 1) := by decide +kernel
theorem dX0_moveAll_26 : decode cX0_moveAll 26 = .ok (.iastore, 1) := by decide +kernel
theorem dX0_moveAll_27 : decode cX0_moveAll 27 = .ok (.iinc 3 1, 3) := by decide +kernel
theorem dX0_moveAll_30 : decode cX0_moveAll 30 = .ok (.goto (-28), 3) := by decide +kernel
theorem dX0_moveAll_33 : decode cX0_moveAll 33 = .ok (.return_, 1) := by decide +kernel
theorem dX0_countIn_0 : decode cX0_countIn 0 = .ok (.iconst 0, 1) := by decide +kernel
theorem dX0_countIn_1 : decode cX0_countIn 1 = .ok (.istore_n 2, 1) := by decide +kernel
theorem dX0_countIn_2 : decode cX0_countIn 2 = .ok (.iconst 0, 1) := by decide +kernel
theorem dX0_countIn_3 : decode cX0_countIn 3 = .ok (.istore_n 3, 1) := by decide +kernel
theorem dX0_countIn_4 : decode cX0_countIn 4 = .ok (.iload_n 3, 1) := by decide +kernel
theorem dX0_countIn_5 : decode cX0_countIn 5 = .ok (.aload_n 0, 1) := by decide +kernel
theorem dX0_countIn_6 : decode cX0_countIn 6 = .ok (.getfield 9, 3) := by decide +kernel
theorem dX0_countIn_9 : decode cX0_countIn 9 = .ok (.if_icmp .ge 22, 3) := by decide +kernel
theorem dX0_countIn_12 : decode cX0_countIn 12 = .ok (.aload_n 0, 1) := by decide +kernel
theorem dX0_countIn_13 : decode cX0_countIn 13 = .ok (.getfield 34, 3) := by decide +kernel
theorem dX0_countIn_16 : decode cX0_countIn 16 = .ok (.iload_n 3, 1) := by decide +kernel
theorem dX0_countIn_17 : decode cX0_countIn 17 = .ok (.iaload, 1) := by decide +kernel
theorem dX0_countIn_18 : decode cX0_countIn 18 = .ok (.iload_n 1, 1) := by decide +kernel
theorem dX0_countIn_19 : decode cX0_countIn 19 = .ok (.if_icmp .ne 6, 3) := by decide +kernel
theorem dX0_countIn_22 : decode cX0_countIn 22 = .ok (.iinc 2 1, 3) := by decide +kernel
theorem dX0_countIn_25 : decode cX0_countIn 25 = .ok (.iinc 3 1, 3) := by decide +kernel
theorem dX0_countIn_28 : decode cX0_countIn 28 = .ok (.goto (-24), 3) := by decide +kernel
theorem dX0_countIn_31 : decode cX0_countIn 31 = .ok (.iload_n 2, 1) := by decide +kernel
theorem dX0_countIn_32 : decode cX0_countIn 32 = .ok (.ireturn, 1) := by decide +kernel
theorem dX0_memberOf_0 : decode cX0_memberOf 0 = .ok (.iconst 0, 1) := by decide +kernel
theorem dX0_memberOf_1 : decode cX0_memberOf 1 = .ok (.istore_n 3, 1) := by decide +kernel
theorem dX0_memberOf_2 : decode cX0_memberOf 2 = .ok (.iconst 0, 1) := by decide +kernel
theorem dX0_memberOf_3 : decode cX0_memberOf 3 = .ok (.istore 4, 2) := by decide +kernel
theorem dX0_memberOf_5 : decode cX0_memberOf 5 = .ok (.iload 4, 2) := by decide +kernel
theorem dX0_memberOf_7 : decode cX0_memberOf 7 = .ok (.aload_n 0, 1) := by decide +kernel
theorem dX0_memberOf_8 : decode cX0_memberOf 8 = .ok (.getfield 9, 3) := by decide +kernel
theorem dX0_memberOf_11 : decode cX0_memberOf 11 = .ok (.if_icmp .ge 31, 3) := by decide +kernel
theorem dX0_memberOf_14 : decode cX0_memberOf 14 = .ok (.aload_n 0, 1) := by decide +kernel
theorem dX0_memberOf_15 : decode cX0_memberOf 15 = .ok (.getfield 34, 3) := by decide +kernel
theorem dX0_memberOf_18 : decode cX0_memberOf 18 = .ok (.iload 4, 2) := by decide +kernel
theorem dX0_memberOf_20 : decode cX0_memberOf 20 = .ok (.iaload, 1) := by decide +kernel
theorem dX0_memberOf_21 : decode cX0_memberOf 21 = .ok (.iload_n 1, 1) := by decide +kernel
theorem dX0_memberOf_22 : decode cX0_memberOf 22 = .ok (.if_icmp .ne 14, 3) := by decide +kernel
theorem dX0_memberOf_25 : decode cX0_memberOf 25 = .ok (.iload_n 3, 1) := by decide +kernel
theorem dX0_memberOf_26 : decode cX0_memberOf 26 = .ok (.iload_n 2, 1) := by decide +kernel
theorem dX0_memberOf_27 : decode cX0_memberOf 27 = .ok (.if_icmp .ne 6, 3) := by decide +kernel
theorem dX0_memberOf_30 : decode cX0_memberOf 30 = .ok (.iload 4, 2) := by decide +kernel
theorem dX0_memberOf_32 : decode cX0_memberOf 32 = .ok (.ireturn, 1) := by decide +kernel
theorem dX0_memberOf_33 : decode cX0_memberOf 33 = .ok (.iinc 3 1, 3) := by decide +kernel
theorem dX0_memberOf_36 : decode cX0_memberOf 36 = .ok (.iinc 4 1, 3) := by decide +kernel
theorem dX0_memberOf_39 : decode cX0_memberOf 39 = .ok (.goto (-34), 3) := by decide +kernel
theorem dX0_memberOf_42 : decode cX0_memberOf 42 = .ok (.iconst (-1), 1) := by decide +kernel
theorem dX0_memberOf_43 : decode cX0_memberOf 43 = .ok (.ireturn, 1) := by decide +kernel
theorem dX0_weighEvent_0 : decode cX0_weighEvent 0 = .ok (.iconst 0, 1) := by decide +kernel
theorem dX0_weighEvent_1 : decode cX0_weighEvent 1 = .ok (.istore_n 2, 1) := by decide +kernel
theorem dX0_weighEvent_2 : decode cX0_weighEvent 2 = .ok (.iconst 0, 1) := by decide +kernel
theorem dX0_weighEvent_3 : decode cX0_weighEvent 3 = .ok (.istore_n 3, 1) := by decide +kernel
theorem dX0_weighEvent_4 : decode cX0_weighEvent 4 = .ok (.iload_n 3, 1) := by decide +kernel
theorem dX0_weighEvent_5 : decode cX0_weighEvent 5 = .ok (.aload_n 0, 1) := by decide +kernel
theorem dX0_weighEvent_6 : decode cX0_weighEvent 6 = .ok (.getfield 9, 3) := by decide +kernel
theorem dX0_weighEvent_9 : decode cX0_weighEvent 9 = .ok (.if_icmp .ge 35, 3) := by decide +kernel
theorem dX0_weighEvent_12 : decode cX0_weighEvent 12 = .ok (.aload_n 0, 1) := by decide +kernel
theorem dX0_weighEvent_13 : decode cX0_weighEvent 13 = .ok (.getfield 34, 3) := by decide +kernel
theorem dX0_weighEvent_16 : decode cX0_weighEvent 16 = .ok (.iload_n 3, 1) := by decide +kernel
theorem dX0_weighEvent_17 : decode cX0_weighEvent 17 = .ok (.iaload, 1) := by decide +kernel
theorem dX0_weighEvent_18 : decode cX0_weighEvent 18 = .ok (.iload_n 1, 1) := by decide +kernel
theorem dX0_weighEvent_19 : decode cX0_weighEvent 19 = .ok (.if_icmp .ne 19, 3) := by decide +kernel
theorem dX0_weighEvent_22 : decode cX0_weighEvent 22 = .ok (.aload_n 0, 1) := by decide +kernel
theorem dX0_weighEvent_23 : decode cX0_weighEvent 23 = .ok (.iload_n 3, 1) := by decide +kernel
theorem dX0_weighEvent_24 : decode cX0_weighEvent 24 = .ok (.invokevirtual 50, 3) := by decide +kernel
theorem dX0_weighEvent_27 : decode cX0_weighEvent 27 = .ok (.ifCond .ne 11, 3) := by decide +kernel
theorem dX0_weighEvent_30 : decode cX0_weighEvent 30 = .ok (.iload_n 2, 1) := by decide +kernel
theorem dX0_weighEvent_31 : decode cX0_weighEvent 31 = .ok (.aload_n 0, 1) := by decide +kernel
theorem dX0_weighEvent_32 : decode cX0_weighEvent 32 = .ok (.iload_n 3, 1) := by decide +kernel
theorem dX0_weighEvent_33 : decode cX0_weighEvent 33 = .ok (.invokevirtual 54, 3) := by decide +kernel
theorem dX0_weighEvent_36 : decode cX0_weighEvent 36 = .ok (.iadd, 1) := by decide +kernel
theorem dX0_weighEvent_37 : decode cX0_weighEvent 37 = .ok (.istore_n 2, 1) := by decide +kernel
theorem dX0_weighEvent_38 : decode cX0_weighEvent 38 = .ok (.iinc 3 1, 3) := by decide +kernel
theorem dX0_weighEvent_41 : decode cX0_weighEvent 41 = .ok (.goto (-37), 3) := by decide +kernel
theorem dX0_weighEvent_44 : decode cX0_weighEvent 44 = .ok (.iload_n 2, 1) := by decide +kernel
theorem dX0_weighEvent_45 : decode cX0_weighEvent 45 = .ok (.ireturn, 1) := by decide +kernel
theorem dX0_weighCall_0 : decode cX0_weighCall 0 = .ok (.iconst 4, 1) := by decide +kernel
theorem dX0_weighCall_1 : decode cX0_weighCall 1 = .ok (.istore_n 2, 1) := by decide +kernel
theorem dX0_weighCall_2 : decode cX0_weighCall 2 = .ok (.aload_n 0, 1) := by decide +kernel
theorem dX0_weighCall_3 : decode cX0_weighCall 3 = .ok (.getfield 43, 3) := by decide +kernel
theorem dX0_weighCall_6 : decode cX0_weighCall 6 = .ok (.iload_n 1, 1) := by decide +kernel
theorem dX0_weighCall_7 : decode cX0_weighCall 7 = .ok (.iaload, 1) := by decide +kernel
theorem dX0_weighCall_8 : decode cX0_weighCall 8 = .ok (.iconst 1, 1) := by decide +kernel
theorem dX0_weighCall_9 : decode cX0_weighCall 9 = .ok (.iand, 1) := by decide +kernel
theorem dX0_weighCall_10 : decode cX0_weighCall 10 = .ok (.ifCond .eq 6, 3) := by decide +kernel
theorem dX0_weighCall_13 : decode cX0_weighCall 13 = .ok (.iinc 2 (-2), 3) := by decide +kernel
theorem dX0_weighCall_16 : decode cX0_weighCall 16 = .ok (.aload_n 0, 1) := by decide +kernel
theorem dX0_weighCall_17 : decode cX0_weighCall 17 = .ok (.getfield 22, 3) := by decide +kernel
theorem dX0_weighCall_20 : decode cX0_weighCall 20 = .ok (.iload_n 1, 1) := by decide +kernel
theorem dX0_weighCall_21 : decode cX0_weighCall 21 = .ok (.iaload, 1) := by decide +kernel
theorem dX0_weighCall_22 : decode cX0_weighCall 22 = .ok (.iconst (-1), 1) := by decide +kernel
theorem dX0_weighCall_23 : decode cX0_weighCall 23 = .ok (.if_icmp .eq 6, 3) := by decide +kernel
theorem dX0_weighCall_26 : decode cX0_weighCall 26 = .ok (.iinc 2 1, 3) := by decide +kernel
theorem dX0_weighCall_29 : decode cX0_weighCall 29 = .ok (.iload_n 2, 1) := by decide +kernel
theorem dX0_weighCall_30 : decode cX0_weighCall 30 = .ok (.ireturn, 1) := by decide +kernel
theorem dX0_pointOf_0 : decode cX0_pointOf 0 = .ok (.iconst 0, 1) := by decide +kernel
theorem dX0_pointOf_1 : decode cX0_pointOf 1 = .ok (.istore_n 2, 1) := by decide +kernel
theorem dX0_pointOf_2 : decode cX0_pointOf 2 = .ok (.iload_n 2, 1) := by decide +kernel
theorem dX0_pointOf_3 : decode cX0_pointOf 3 = .ok (.aload_n 0, 1) := by decide +kernel
theorem dX0_pointOf_4 : decode cX0_pointOf 4 = .ok (.getfield 9, 3) := by decide +kernel
theorem dX0_pointOf_7 : decode cX0_pointOf 7 = .ok (.if_icmp .ge 44, 3) := by decide +kernel
theorem dX0_pointOf_10 : decode cX0_pointOf 10 = .ok (.aload_n 0, 1) := by decide +kernel
theorem dX0_pointOf_11 : decode cX0_pointOf 11 = .ok (.getfield 34, 3) := by decide +kernel
theorem dX0_pointOf_14 : decode cX0_pointOf 14 = .ok (.iload_n 2, 1) := by decide +kernel
theorem dX0_pointOf_15 : decode cX0_pointOf 15 = .ok (.iaload, 1) := by decide +kernel
theorem dX0_pointOf_16 : decode cX0_pointOf 16 = .ok (.iload_n 1, 1) := by decide +kernel
theorem dX0_pointOf_17 : decode cX0_pointOf 17 = .ok (.if_icmp .ne 28, 3) := by decide +kernel
theorem dX0_pointOf_20 : decode cX0_pointOf 20 = .ok (.aload_n 0, 1) := by decide +kernel
theorem dX0_pointOf_21 : decode cX0_pointOf 21 = .ok (.iload_n 2, 1) := by decide +kernel
theorem dX0_pointOf_22 : decode cX0_pointOf 22 = .ok (.invokevirtual 50, 3) := by decide +kernel
theorem dX0_pointOf_25 : decode cX0_pointOf 25 = .ok (.ifCond .ne 20, 3) := by decide +kernel
theorem dX0_pointOf_28 : decode cX0_pointOf 28 = .ok (.aload_n 0, 1) := by decide +kernel
theorem dX0_pointOf_29 : decode cX0_pointOf 29 = .ok (.getfield 22, 3) := by decide +kernel
theorem dX0_pointOf_32 : decode cX0_pointOf 32 = .ok (.iload_n 2, 1) := by decide +kernel
theorem dX0_pointOf_33 : decode cX0_pointOf 33 = .ok (.iaload, 1) := by decide +kernel
theorem dX0_pointOf_34 : decode cX0_pointOf 34 = .ok (.iconst (-1), 1) := by decide +kernel
theorem dX0_pointOf_35 : decode cX0_pointOf 35 = .ok (.if_icmp .eq 10, 3) := by decide +kernel
theorem dX0_pointOf_38 : decode cX0_pointOf 38 = .ok (.aload_n 0, 1) := by decide +kernel
theorem dX0_pointOf_39 : decode cX0_pointOf 39 = .ok (.getfield 22, 3) := by decide +kernel
theorem dX0_pointOf_42 : decode cX0_pointOf 42 = .ok (.iload_n 2, 1) := by decide +kernel
theorem dX0_pointOf_43 : decode cX0_pointOf 43 = .ok (.iaload, 1) := by decide +kernel
theorem dX0_pointOf_44 : decode cX0_pointOf 44 = .ok (.ireturn, 1) := by decide +kernel
theorem dX0_pointOf_45 : decode cX0_pointOf 45 = .ok (.iinc 2 1, 3) := by decide +kernel
theorem dX0_pointOf_48 : decode cX0_pointOf 48 = .ok (.goto (-46), 3) := by decide +kernel
theorem dX0_pointOf_51 : decode cX0_pointOf 51 = .ok (.iconst (-1), 1) := by decide +kernel
theorem dX0_pointOf_52 : decode cX0_pointOf 52 = .ok (.ireturn, 1) := by decide +kernel
theorem dX0_latestTimeOf_0 : decode cX0_latestTimeOf 0 = .ok (.aload_n 0, 1) := by decide +kernel
theorem dX0_latestTimeOf_1 : decode cX0_latestTimeOf 1 = .ok (.getfield 9, 3) := by decide +kernel
theorem dX0_latestTimeOf_4 : decode cX0_latestTimeOf 4 = .ok (.iconst 1, 1) := by decide +kernel
theorem dX0_latestTimeOf_5 : decode cX0_latestTimeOf 5 = .ok (.isub, 1) := by decide +kernel
theorem dX0_latestTimeOf_6 : decode cX0_latestTimeOf 6 = .ok (.istore_n 2, 1) := by decide +kernel
theorem dX0_latestTimeOf_7 : decode cX0_latestTimeOf 7 = .ok (.iload_n 2, 1) := by decide +kernel
theorem dX0_latestTimeOf_8 : decode cX0_latestTimeOf 8 = .ok (.ifCond .lt 26, 3) := by decide +kernel
theorem dX0_latestTimeOf_11 : decode cX0_latestTimeOf 11 = .ok (.aload_n 0, 1) := by decide +kernel
theorem dX0_latestTimeOf_12 : decode cX0_latestTimeOf 12 = .ok (.getfield 34, 3) := by decide +kernel
theorem dX0_latestTimeOf_15 : decode cX0_latestTimeOf 15 = .ok (.iload_n 2, 1) := by decide +kernel
theorem dX0_latestTimeOf_16 : decode cX0_latestTimeOf 16 = .ok (.iaload, 1) := by decide +kernel
theorem dX0_latestTimeOf_17 : decode cX0_latestTimeOf 17 = .ok (.iload_n 1, 1) := by decide +kernel
theorem dX0_latestTimeOf_18 : decode cX0_latestTimeOf 18 = .ok (.if_icmp .ne 10, 3) := by decide +kernel
theorem dX0_latestTimeOf_21 : decode cX0_latestTimeOf 21 = .ok (.aload_n 0, 1) := by decide +kernel
theorem dX0_latestTimeOf_22 : decode cX0_latestTimeOf 22 = .ok (.getfield 31, 3) := by decide +kernel
theorem dX0_latestTimeOf_25 : decode cX0_latestTimeOf 25 = .ok (.iload_n 2, 1) := by decide +kernel
theorem dX0_latestTimeOf_26 : decode cX0_latestTimeOf 26 = .ok (.iaload, 1) := by decide +kernel
theorem dX0_latestTimeOf_27 : decode cX0_latestTimeOf 27 = .ok (.ireturn, 1) := by decide +kernel
theorem dX0_latestTimeOf_28 : decode cX0_latestTimeOf 28 = .ok (.iinc 2 (-1), 3) := by decide +kernel
theorem dX0_latestTimeOf_31 : decode cX0_latestTimeOf 31 = .ok (.goto (-24), 3) := by decide +kernel
theorem dX0_latestTimeOf_34 : decode cX0_latestTimeOf 34 = .ok (.iconst (-1), 1) := by decide +kernel
theorem dX0_latestTimeOf_35 : decode cX0_latestTimeOf 35 = .ok (.ireturn, 1) := by decide +kernel
theorem dX0_countHoaxes_0 : decode cX0_countHoaxes 0 = .ok (.iconst 0, 1) := by decide +kernel
theorem dX0_countHoaxes_1 : decode cX0_countHoaxes 1 = .ok (.istore_n 1, 1) := by decide +kernel
theorem dX0_countHoaxes_2 : decode cX0_countHoaxes 2 = .ok (.iconst 0, 1) := by decide +kernel
theorem dX0_countHoaxes_3 : decode cX0_countHoaxes 3 = .ok (.istore_n 2, 1) := by decide +kernel
theorem dX0_countHoaxes_4 : decode cX0_countHoaxes 4 = .ok (.iload_n 2, 1) := by decide +kernel
theorem dX0_countHoaxes_5 : decode cX0_countHoaxes 5 = .ok (.aload_n 0, 1) := by decide +kernel
theorem dX0_countHoaxes_6 : decode cX0_countHoaxes 6 = .ok (.getfield 9, 3) := by decide +kernel
theorem dX0_countHoaxes_9 : decode cX0_countHoaxes 9 = .ok (.if_icmp .ge 20, 3) := by decide +kernel
theorem dX0_countHoaxes_12 : decode cX0_countHoaxes 12 = .ok (.aload_n 0, 1) := by decide +kernel
theorem dX0_countHoaxes_13 : decode cX0_countHoaxes 13 = .ok (.iload_n 2, 1) := by decide +kernel
theorem dX0_countHoaxes_14 : decode cX0_countHoaxes 14 = .ok (.invokevirtual 50, 3) := by decide +kernel
theorem dX0_countHoaxes_17 : decode cX0_countHoaxes 17 = .ok (.ifCond .eq 6, 3) := by decide +kernel
theorem dX0_countHoaxes_20 : decode cX0_countHoaxes 20 = .ok (.iinc 1 1, 3) := by decide +kernel
theorem dX0_countHoaxes_23 : decode cX0_countHoaxes 23 = .ok (.iinc 2 1, 3) := by decide +kernel
theorem dX0_countHoaxes_26 : decode cX0_countHoaxes 26 = .ok (.goto (-22), 3) := by decide +kernel
theorem dX0_countHoaxes_29 : decode cX0_countHoaxes 29 = .ok (.iload_n 1, 1) := by decide +kernel
theorem dX0_countHoaxes_30 : decode cX0_countHoaxes 30 = .ok (.ireturn, 1) := by decide +kernel
theorem dX1_init_0 : decode cX1_init 0 = .ok (.aload_n 0, 1) := by decide +kernel
theorem dX1_init_1 : decode cX1_init 1 = .ok (.invokespecial 3, 3) := by decide +kernel
theorem dX1_init_4 : decode cX1_init 4 = .ok (.aload_n 0, 1) := by decide +kernel
theorem dX1_init_5 : decode cX1_init 5 = .ok (.iconst 0, 1) := by decide +kernel
theorem dX1_init_6 : decode cX1_init 6 = .ok (.putfield 9, 3) := by decide +kernel
theorem dX1_init_9 : decode cX1_init 9 = .ok (.aload_n 0, 1) := by decide +kernel
theorem dX1_init_10 : decode cX1_init 10 = .ok (.bipush 60, 2) := by decide +kernel
theorem dX1_init_12 : decode cX1_init 12 = .ok (.newarray .int, 2) := by decide +kernel
theorem dX1_init_14 : decode cX1_init 14 = .ok (.putfield 15, 3) := by decide +kernel
theorem dX1_init_17 : decode cX1_init 17 = .ok (.aload_n 0, 1) := by decide +kernel
theorem dX1_init_18 : decode cX1_init 18 = .ok (.bipush 60, 2) := by decide +kernel
theorem dX1_init_20 : decode cX1_init 20 = .ok (.newarray .int, 2) := by decide +kernel
theorem dX1_init_22 : decode cX1_init 22 = .ok (.putfield 19, 3) := by decide +kernel
theorem dX1_init_25 : decode cX1_init 25 = .ok (.aload_n 0, 1) := by decide +kernel
theorem dX1_init_26 : decode cX1_init 26 = .ok (.bipush 60, 2) := by decide +kernel
theorem dX1_init_28 : decode cX1_init 28 = .ok (.newarray .int, 2) := by decide +kernel
theorem dX1_init_30 : decode cX1_init 30 = .ok (.putfield 22, 3) := by decide +kernel
theorem dX1_init_33 : decode cX1_init 33 = .ok (.aload_n 0, 1) := by decide +kernel
theorem dX1_init_34 : decode cX1_init 34 = .ok (.bipush 60, 2) := by decide +kernel
theorem dX1_init_36 : decode cX1_init 36 = .ok (.newarray .int, 2) := by decide +kernel
theorem dX1_init_38 : decode cX1_init 38 = .ok (.putfield 25, 3) := by decide +kernel
theorem dX1_init_41 : decode cX1_init 41 = .ok (.aload_n 0, 1) := by decide +kernel
theorem dX1_init_42 : decode cX1_init 42 = .ok (.bipush 60, 2) := by decide +kernel
theorem dX1_init_44 : decode cX1_init 44 = .ok (.newarray .int, 2) := by decide +kernel
theorem dX1_init_46 : decode cX1_init 46 = .ok (.putfield 28, 3) := by decide +kernel
theorem dX1_init_49 : decode cX1_init 49 = .ok (.aload_n 0, 1) := by decide +kernel
theorem dX1_init_50 : decode cX1_init 50 = .ok (.bipush 60, 2) := by decide +kernel
theorem dX1_init_52 : decode cX1_init 52 = .ok (.newarray .int, 2) := by decide +kernel
theorem dX1_init_54 : decode cX1_init 54 = .ok (.putfield 31, 3) := by decide +kernel
theorem dX1_init_57 : decode cX1_init 57 = .ok (.return_, 1) := by decide +kernel
theorem dX1_begin_0 : decode cX1_begin 0 = .ok (.aload_n 0, 1) := by decide +kernel
theorem dX1_begin_1 : decode cX1_begin 1 = .ok (.getfield 15, 3) := by decide +kernel
theorem dX1_begin_4 : decode cX1_begin 4 = .ok (.aload_n 0, 1) := by decide +kernel
theorem dX1_begin_5 : decode cX1_begin 5 = .ok (.getfield 9, 3) := by decide +kernel
theorem dX1_begin_8 : decode cX1_begin 8 = .ok (.iconst 0, 1) := by decide +kernel
theorem dX1_begin_9 : decode cX1_begin 9 = .ok (.iastore, 1) := by decide +kernel
theorem dX1_begin_10 : decode cX1_begin 10 = .ok (.aload_n 0, 1) := by decide +kernel
theorem dX1_begin_11 : decode cX1_begin 11 = .ok (.getfield 19, 3) := by decide +kernel
theorem dX1_begin_14 : decode cX1_begin 14 = .ok (.aload_n 0, 1) := by decide +kernel
theorem dX1_begin_15 : decode cX1_begin 15 = .ok (.getfield 9, 3) := by decide +kernel
theorem dX1_begin_18 : decode cX1_begin 18 = .ok (.iload_n 1, 1) := by decide +kernel
theorem dX1_begin_19 : decode cX1_begin 19 = .ok (.iastore, 1) := by decide +kernel
theorem dX1_begin_20 : decode cX1_begin 20 = .ok (.aload_n 0, 1) := by decide +kernel
theorem dX1_begin_21 : decode cX1_begin 21 = .ok (.getfield 22, 3) := by decide +kernel
theorem dX1_begin_24 : decode cX1_begin 24 = .ok (.aload_n 0, 1) := by decide +kernel
theorem dX1_begin_25 : decode cX1_begin 25 = .ok (.getfield 9, 3) := by decide +kernel
theorem dX1_begin_28 : decode cX1_begin 28 = .ok (.iload_n 2, 1) := by decide +kernel
theorem dX1_begin_29 : decode cX1_begin 29 = .ok (.iastore, 1) := by decide +kernel
theorem dX1_begin_30 : decode cX1_begin 30 = .ok (.aload_n 0, 1) := by decide +kernel
theorem dX1_begin_31 : decode cX1_begin 31 = .ok (.getfield 25, 3) := by decide +kernel
theorem dX1_begin_34 : decode cX1_begin 34 = .ok (.aload_n 0, 1) := by decide +kernel
theorem dX1_begin_35 : decode cX1_begin 35 = .ok (.getfield 9, 3) := by decide +kernel
theorem dX1_begin_38 : decode cX1_begin 38 = .ok (.iconst (-1), 1) := by decide +kernel
theorem dX1_begin_39 : decode cX1_begin 39 = .ok (.iastore, 1) := by decide +kernel
theorem dX1_begin_40 : decode cX1_begin 40 = .ok (.aload_n 0, 1) := by decide +kernel
theorem dX1_begin_41 : decode cX1_begin 41 = .ok (.dup, 1) := by decide +kernel
theorem dX1_begin_42 : decode cX1_begin 42 = .ok (.getfield 9, 3) := by decide +kernel
theorem dX1_begin_45 : decode cX1_begin 45 = .ok (.iconst 1, 1) := by decide +kernel
theorem dX1_begin_46 : decode cX1_begin 46 = .ok (.iadd, 1) := by decide +kernel
theorem dX1_begin_47 : decode cX1_begin 47 = .ok (.putfield 9, 3) := by decide +kernel
theorem dX1_begin_50 : decode cX1_begin 50 = .ok (.aload_n 0, 1) := by decide +kernel
theorem dX1_begin_51 : decode cX1_begin 51 = .ok (.getfield 9, 3) := by decide +kernel
theorem dX1_begin_54 : decode cX1_begin 54 = .ok (.iconst 1, 1) := by decide +kernel
theorem dX1_begin_55 : decode cX1_begin 55 = .ok (.isub, 1) := by decide +kernel
theorem dX1_begin_56 : decode cX1_begin 56 = .ok (.ireturn, 1) := by decide +kernel
theorem dX1_isWatchedFor_0 : decode cX1_isWatchedFor 0 = .ok (.aload_n 0, 1) := by decide +kernel
theorem dX1_isWatchedFor_1 : decode cX1_isWatchedFor 1 = .ok (.getfield 15, 3) := by decide +kernel
theorem dX1_isWatchedFor_4 : decode cX1_isWatchedFor 4 = .ok (.iload_n 1, 1) := by decide +kernel
theorem dX1_isWatchedFor_5 : decode cX1_isWatchedFor 5 = .ok (.iaload, 1) := by decide +kernel
theorem dX1_isWatchedFor_6 : decode cX1_isWatchedFor 6 = .ok (.ifCond .ne 27, 3) := by decide +kernel
theorem dX1_isWatchedFor_9 : decode cX1_isWatchedFor 9 = .ok (.aload_n 0, 1) := by decide +kernel
theorem dX1_isWatchedFor_10 : decode cX1_isWatchedFor 10 = .ok (.getfield 19, 3) := by decide +kernel
theorem dX1_isWatchedFor_13 : decode cX1_isWatchedFor 13 = .ok (.iload_n 1, 1) := by decide +kernel
theorem dX1_isWatchedFor_14 : decode cX1_isWatchedFor 14 = .ok (.iaload, 1) := by decide +kernel
theorem dX1_isWatchedFor_15 : decode cX1_isWatchedFor 15 = .ok (.iload_n 2, 1) := by decide +kernel
theorem dX1_isWatchedFor_16 : decode cX1_isWatchedFor 16 = .ok (.if_icmp .ne 17, 3) := by decide +kernel
theorem dX1_isWatchedFor_19 : decode cX1_isWatchedFor 19 = .ok (.aload_n 0, 1) := by decide +kernel
theorem dX1_isWatchedFor_20 : decode cX1_isWatchedFor 20 = .ok (.getfield 25, 3) := by decide +kernel
theorem dX1_isWatchedFor_23 : decode cX1_isWatchedFor 23 = .ok (.iload_n 1, 1) := by decide +kernel
theorem dX1_isWatchedFor_24 : decode cX1_isWatchedFor 24 = .ok (.iaload, 1) := by decide +kernel
theorem dX1_isWatchedFor_25 : decode cX1_isWatchedFor 25 = .ok (.iconst (-1), 1) := by decide +kernel
theorem dX1_isWatchedFor_26 : decode cX1_isWatchedFor 26 = .ok (.if_icmp .eq 7, 3) := by decide +kernel
theorem dX1_isWatchedFor_29 : decode cX1_isWatchedFor 29 = .ok (.iconst 1, 1) := by decide +kernel
theorem dX1_isWatchedFor_30 : decode cX1_isWatchedFor 30 = .ok (.goto 4, 3) := by decide +kernel
theorem dX1_isWatchedFor_33 : decode cX1_isWatchedFor 33 = .ok (.iconst 0, 1) := by decide +kernel
theorem dX1_isWatchedFor_34 : decode cX1_isWatchedFor 34 = .ok (.ireturn, 1) := by decide +kernel
theorem dX1_countOpen_0 : decode cX1_countOpen 0 = .ok (.iconst 0, 1) := by decide +kernel
theorem dX1_countOpen_1 : decode cX1_countOpen 1 = .ok (.istore_n 1, 1) := by decide +kernel
theorem dX1_countOpen_2 : decode cX1_countOpen 2 = .ok (.iconst 0, 1) := by decide +kernel
theorem dX1_countOpen_3 : decode cX1_countOpen 3 = .ok (.istore_n 2, 1) := by decide +kernel
theorem dX1_countOpen_4 : decode cX1_countOpen 4 = .ok (.iload_n 2, 1) := by decide +kernel
theorem dX1_countOpen_5 : decode cX1_countOpen 5 = .ok (.aload_n 0, 1) := by decide +kernel
theorem dX1_countOpen_6 : decode cX1_countOpen 6 = .ok (.getfield 9, 3) := by decide +kernel
theorem dX1_countOpen_9 : decode cX1_countOpen 9 = .ok (.if_icmp .ge 21, 3) := by decide +kernel
theorem dX1_countOpen_12 : decode cX1_countOpen 12 = .ok (.aload_n 0, 1) := by decide +kernel
theorem dX1_countOpen_13 : decode cX1_countOpen 13 = .ok (.getfield 15, 3) := by decide +kernel
theorem dX1_countOpen_16 : decode cX1_countOpen 16 = .ok (.iload_n 2, 1) := by decide +kernel
theorem dX1_countOpen_17 : decode cX1_countOpen 17 = .ok (.iaload, 1) := by decide +kernel
theorem dX1_countOpen_18 : decode cX1_countOpen 18 = .ok (.ifCond .ne 6, 3) := by decide +kernel
theorem dX1_countOpen_21 : decode cX1_countOpen 21 = .ok (.iinc 1 1, 3) := by decide +kernel
theorem dX1_countOpen_24 : decode cX1_countOpen 24 = .ok (.iinc 2 1, 3) := by decide +kernel
theorem dX1_countOpen_27 : decode cX1_countOpen 27 = .ok (.goto (-23), 3) := by decide +kernel
theorem dX1_countOpen_30 : decode cX1_countOpen 30 = .ok (.iload_n 1, 1) := by decide +kernel
theorem dX1_countOpen_31 : decode cX1_countOpen 31 = .ok (.ireturn, 1) := by decide +kernel
theorem dX2_init_0 : decode cX2_init 0 = .ok (.aload_n 0, 1) := by decide +kernel
theorem dX2_init_1 : decode cX2_init 1 = .ok (.invokespecial 3, 3) := by decide +kernel
theorem dX2_init_4 : decode cX2_init 4 = .ok (.aload_n 0, 1) := by decide +kernel
theorem dX2_init_5 : decode cX2_init 5 = .ok (.bipush 8, 2) := by decide +kernel
theorem dX2_init_7 : decode cX2_init 7 = .ok (.newarray .int, 2) := by decide +kernel
theorem dX2_init_9 : decode cX2_init 9 = .ok (.putfield 9, 3) := by decide +kernel
theorem dX2_init_12 : decode cX2_init 12 = .ok (.aload_n 0, 1) := by decide +kernel
theorem dX2_init_13 : decode cX2_init 13 = .ok (.bipush 64, 2) := by decide +kernel
theorem dX2_init_15 : decode cX2_init 15 = .ok (.newarray .int, 2) := by decide +kernel
theorem dX2_init_17 : decode cX2_init 17 = .ok (.putfield 15, 3) := by decide +kernel
theorem dX2_init_20 : decode cX2_init 20 = .ok (.return_, 1) := by decide +kernel
theorem dX2_append_0 : decode cX2_append 0 = .ok (.aload_n 0, 1) := by decide +kernel
theorem dX2_append_1 : decode cX2_append 1 = .ok (.getfield 15, 3) := by decide +kernel
theorem dX2_append_4 : decode cX2_append 4 = .ok (.iload_n 1, 1) := by decide +kernel
theorem dX2_append_5 : decode cX2_append 5 = .ok (.bipush 8, 2) := by decide +kernel
theorem dX2_append_7 : decode cX2_append 7 = .ok (.imul, 1) := by decide +kernel
theorem dX2_append_8 : decode cX2_append 8 = .ok (.aload_n 0, 1) := by decide +kernel
end
section
theorem dX2_append_9 : decode cX2_append 9 = .ok (.getfield 9, 3) := by decide +kernel
theorem dX2_append_12 : decode cX2_append 12 = .ok (.iload_n 1, 1) := by decide +kernel
theorem dX2_append_13 : decode cX2_append 13 = .ok (.iaload, 1) := by decide +kernel
theorem dX2_append_14 : decode cX2_append 14 = .ok (.iadd, 1) := by decide +kernel
theorem dX2_append_15 : decode cX2_append 15 = .ok (.iload_n 2, 1) := by decide +kernel
theorem dX2_append_16 : decode cX2_append 16 = .ok (.iastore, 1) := by decide +kernel
theorem dX2_append_17 : decode cX2_append 17 = .ok (.aload_n 0, 1) := by decide +kernel
theorem dX2_append_18 : decode cX2_append 18 = .ok (.getfield 9, 3) := by decide +kernel
theorem dX2_append_21 : decode cX2_append 21 = .ok (.iload_n 1, 1) := by decide +kernel
theorem dX2_append_22 : decode cX2_append 22 = .ok (.dup2, 1) := by decide +kernel
theorem dX2_append_23 : decode cX2_append 23 = .ok (.iaload, 1) := by decide +kernel
theorem dX2_append_24 : decode cX2_append 24 = .ok (.iconst 1, 1) := by decide +kernel
theorem dX2_append_25 : decode cX2_append 25 = .ok (.iadd, 1) := by decide +kernel
theorem dX2_append_26 : decode cX2_append 26 = .ok (.iastore, 1) := by decide +kernel
theorem dX2_append_27 : decode cX2_append 27 = .ok (.aload_n 0, 1) := by decide +kernel
theorem dX2_append_28 : decode cX2_append 28 = .ok (.getfield 9, 3) := by decide +kernel
theorem dX2_append_31 : decode cX2_append 31 = .ok (.iload_n 1, 1) := by decide +kernel
theorem dX2_append_32 : decode cX2_append 32 = .ok (.iaload, 1) := by decide +kernel
theorem dX2_append_33 : decode cX2_append 33 = .ok (.ireturn, 1) := by decide +kernel
theorem dX2_isNear_0 : decode cX2_isNear 0 = .ok (.iload_n 1, 1) := by decide +kernel
theorem dX2_isNear_1 : decode cX2_isNear 1 = .ok (.bipush 8, 2) := by decide +kernel
theorem dX2_isNear_3 : decode cX2_isNear 3 = .ok (.imul, 1) := by decide +kernel
theorem dX2_isNear_4 : decode cX2_isNear 4 = .ok (.istore 5, 2) := by decide +kernel
theorem dX2_isNear_6 : decode cX2_isNear 6 = .ok (.iload_n 2, 1) := by decide +kernel
theorem dX2_isNear_7 : decode cX2_isNear 7 = .ok (.istore 6, 2) := by decide +kernel
theorem dX2_isNear_9 : decode cX2_isNear 9 = .ok (.iload 6, 2) := by decide +kernel
theorem dX2_isNear_11 : decode cX2_isNear 11 = .ok (.iload_n 3, 1) := by decide +kernel
theorem dX2_isNear_12 : decode cX2_isNear 12 = .ok (.if_icmp .ge 41, 3) := by decide +kernel
theorem dX2_isNear_15 : decode cX2_isNear 15 = .ok (.aload_n 0, 1) := by decide +kernel
theorem dX2_isNear_16 : decode cX2_isNear 16 = .ok (.getfield 15, 3) := by decide +kernel
theorem dX2_isNear_19 : decode cX2_isNear 19 = .ok (.iload 5, 2) := by decide +kernel
theorem dX2_isNear_21 : decode cX2_isNear 21 = .ok (.iload 6, 2) := by decide +kernel
theorem dX2_isNear_23 : decode cX2_isNear 23 = .ok (.iadd, 1) := by decide +kernel
theorem dX2_isNear_24 : decode cX2_isNear 24 = .ok (.iaload, 1) := by decide +kernel
theorem dX2_isNear_25 : decode cX2_isNear 25 = .ok (.aload_n 0, 1) := by decide +kernel
theorem dX2_isNear_26 : decode cX2_isNear 26 = .ok (.getfield 15, 3) := by decide +kernel
theorem dX2_isNear_29 : decode cX2_isNear 29 = .ok (.iload 5, 2) := by decide +kernel
theorem dX2_isNear_31 : decode cX2_isNear 31 = .ok (.iload 6, 2) := by decide +kernel
theorem dX2_isNear_33 : decode cX2_isNear 33 = .ok (.iadd, 1) := by decide +kernel
theorem dX2_isNear_34 : decode cX2_isNear 34 = .ok (.iconst 1, 1) := by decide +kernel
theorem dX2_isNear_35 : decode cX2_isNear 35 = .ok (.iadd, 1) := by decide +kernel
theorem dX2_isNear_36 : decode cX2_isNear 36 = .ok (.iaload, 1) := by decide +kernel
theorem dX2_isNear_37 : decode cX2_isNear 37 = .ok (.iload 4, 2) := by decide +kernel
theorem dX2_isNear_39 : decode cX2_isNear 39 = .ok (.invokestatic 18, 3) := by decide +kernel
theorem dX2_isNear_42 : decode cX2_isNear 42 = .ok (.ifCond .eq 5, 3) := by decide +kernel
theorem dX2_isNear_45 : decode cX2_isNear 45 = .ok (.iconst 1, 1) := by decide +kernel
theorem dX2_isNear_46 : decode cX2_isNear 46 = .ok (.ireturn, 1) := by decide +kernel
theorem dX2_isNear_47 : decode cX2_isNear 47 = .ok (.iinc 6 1, 3) := by decide +kernel
theorem dX2_isNear_50 : decode cX2_isNear 50 = .ok (.goto (-41), 3) := by decide +kernel
theorem dX2_isNear_53 : decode cX2_isNear 53 = .ok (.iconst 0, 1) := by decide +kernel
theorem dX2_isNear_54 : decode cX2_isNear 54 = .ok (.ireturn, 1) := by decide +kernel
theorem dX2_isNearPiece_0 : decode cX2_isNearPiece 0 = .ok (.iload_n 1, 1) := by decide +kernel
theorem dX2_isNearPiece_1 : decode cX2_isNearPiece 1 = .ok (.invokestatic 22, 3) := by decide +kernel
theorem dX2_isNearPiece_4 : decode cX2_isNearPiece 4 = .ok (.iload_n 0, 1) := by decide +kernel
theorem dX2_isNearPiece_5 : decode cX2_isNearPiece 5 = .ok (.invokestatic 22, 3) := by decide +kernel
theorem dX2_isNearPiece_8 : decode cX2_isNearPiece 8 = .ok (.isub, 1) := by decide +kernel
theorem dX2_isNearPiece_9 : decode cX2_isNearPiece 9 = .ok (.i2l, 1) := by decide +kernel
theorem dX2_isNearPiece_10 : decode cX2_isNearPiece 10 = .ok (.lstore_n 3, 1) := by decide +kernel
theorem dX2_isNearPiece_11 : decode cX2_isNearPiece 11 = .ok (.iload_n 1, 1) := by decide +kernel
theorem dX2_isNearPiece_12 : decode cX2_isNearPiece 12 = .ok (.invokestatic 26, 3) := by decide +kernel
theorem dX2_isNearPiece_15 : decode cX2_isNearPiece 15 = .ok (.iload_n 0, 1) := by decide +kernel
theorem dX2_isNearPiece_16 : decode cX2_isNearPiece 16 = .ok (.invokestatic 26, 3) := by decide +kernel
theorem dX2_isNearPiece_19 : decode cX2_isNearPiece 19 = .ok (.isub, 1) := by decide +kernel
theorem dX2_isNearPiece_20 : decode cX2_isNearPiece 20 = .ok (.i2l, 1) := by decide +kernel
theorem dX2_isNearPiece_21 : decode cX2_isNearPiece 21 = .ok (.lstore 5, 2) := by decide +kernel
theorem dX2_isNearPiece_23 : decode cX2_isNearPiece 23 = .ok (.iload_n 2, 1) := by decide +kernel
theorem dX2_isNearPiece_24 : decode cX2_isNearPiece 24 = .ok (.invokestatic 22, 3) := by decide +kernel
theorem dX2_isNearPiece_27 : decode cX2_isNearPiece 27 = .ok (.iload_n 0, 1) := by decide +kernel
theorem dX2_isNearPiece_28 : decode cX2_isNearPiece 28 = .ok (.invokestatic 22, 3) := by decide +kernel
theorem dX2_isNearPiece_31 : decode cX2_isNearPiece 31 = .ok (.isub, 1) := by decide +kernel
theorem dX2_isNearPiece_32 : decode cX2_isNearPiece 32 = .ok (.i2l, 1) := by decide +kernel
theorem dX2_isNearPiece_33 : decode cX2_isNearPiece 33 = .ok (.lstore 7, 2) := by decide +kernel
theorem dX2_isNearPiece_35 : decode cX2_isNearPiece 35 = .ok (.iload_n 2, 1) := by decide +kernel
theorem dX2_isNearPiece_36 : decode cX2_isNearPiece 36 = .ok (.invokestatic 26, 3) := by decide +kernel
theorem dX2_isNearPiece_39 : decode cX2_isNearPiece 39 = .ok (.iload_n 0, 1) := by decide +kernel
theorem dX2_isNearPiece_40 : decode cX2_isNearPiece 40 = .ok (.invokestatic 26, 3) := by decide +kernel
theorem dX2_isNearPiece_43 : decode cX2_isNearPiece 43 = .ok (.isub, 1) := by decide +kernel
theorem dX2_isNearPiece_44 : decode cX2_isNearPiece 44 = .ok (.i2l, 1) := by decide +kernel
theorem dX2_isNearPiece_45 : decode cX2_isNearPiece 45 = .ok (.lstore 9, 2) := by decide +kernel
theorem dX2_isNearPiece_47 : decode cX2_isNearPiece 47 = .ok (.lload 7, 2) := by decide +kernel
theorem dX2_isNearPiece_49 : decode cX2_isNearPiece 49 = .ok (.lload_n 3, 1) := by decide +kernel
theorem dX2_isNearPiece_50 : decode cX2_isNearPiece 50 = .ok (.lmul, 1) := by decide +kernel
theorem dX2_isNearPiece_51 : decode cX2_isNearPiece 51 = .ok (.lload 9, 2) := by decide +kernel
theorem dX2_isNearPiece_53 : decode cX2_isNearPiece 53 = .ok (.lload 5, 2) := by decide +kernel
theorem dX2_isNearPiece_55 : decode cX2_isNearPiece 55 = .ok (.lmul, 1) := by decide +kernel
theorem dX2_isNearPiece_56 : decode cX2_isNearPiece 56 = .ok (.ladd, 1) := by decide +kernel
theorem dX2_isNearPiece_57 : decode cX2_isNearPiece 57 = .ok (.lstore 11, 2) := by decide +kernel
theorem dX2_isNearPiece_59 : decode cX2_isNearPiece 59 = .ok (.lload_n 3, 1) := by decide +kernel
theorem dX2_isNearPiece_60 : decode cX2_isNearPiece 60 = .ok (.lload_n 3, 1) := by decide +kernel
theorem dX2_isNearPiece_61 : decode cX2_isNearPiece 61 = .ok (.lmul, 1) := by decide +kernel
theorem dX2_isNearPiece_62 : decode cX2_isNearPiece 62 = .ok (.lload 5, 2) := by decide +kernel
theorem dX2_isNearPiece_64 : decode cX2_isNearPiece 64 = .ok (.lload 5, 2) := by decide +kernel
theorem dX2_isNearPiece_66 : decode cX2_isNearPiece 66 = .ok (.lmul, 1) := by decide +kernel
theorem dX2_isNearPiece_67 : decode cX2_isNearPiece 67 = .ok (.ladd, 1) := by decide +kernel
theorem dX2_isNearPiece_68 : decode cX2_isNearPiece 68 = .ok (.lstore 13, 2) := by decide +kernel
theorem dX2_isNearPiece_70 : decode cX2_isNearPiece 70 = .ok (.lload 11, 2) := by decide +kernel
theorem dX2_isNearPiece_72 : decode cX2_isNearPiece 72 = .ok (.lconst 0, 1) := by decide +kernel
theorem dX2_isNearPiece_73 : decode cX2_isNearPiece 73 = .ok (.lcmp, 1) := by decide +kernel
theorem dX2_isNearPiece_74 : decode cX2_isNearPiece 74 = .ok (.ifCond .gt 21, 3) := by decide +kernel
theorem dX2_isNearPiece_77 : decode cX2_isNearPiece 77 = .ok (.iload_n 0, 1) := by decide +kernel
theorem dX2_isNearPiece_78 : decode cX2_isNearPiece 78 = .ok (.iload_n 2, 1) := by decide +kernel
theorem dX2_isNearPiece_79 : decode cX2_isNearPiece 79 = .ok (.invokestatic 29, 3) := by decide +kernel
theorem dX2_isNearPiece_82 : decode cX2_isNearPiece 82 = .ok (.ldc2_w 33, 3) := by decide +kernel
theorem dX2_isNearPiece_85 : decode cX2_isNearPiece 85 = .ok (.lcmp, 1) := by decide +kernel
theorem dX2_isNearPiece_86 : decode cX2_isNearPiece 86 = .ok (.ifCond .gt 7, 3) := by decide +kernel
theorem dX2_isNearPiece_89 : decode cX2_isNearPiece 89 = .ok (.iconst 1, 1) := by decide +kernel
theorem dX2_isNearPiece_90 : decode cX2_isNearPiece 90 = .ok (.goto 4, 3) := by decide +kernel
theorem dX2_isNearPiece_93 : decode cX2_isNearPiece 93 = .ok (.iconst 0, 1) := by decide +kernel
theorem dX2_isNearPiece_94 : decode cX2_isNearPiece 94 = .ok (.ireturn, 1) := by decide +kernel
theorem dX2_isNearPiece_95 : decode cX2_isNearPiece 95 = .ok (.lload 11, 2) := by decide +kernel
theorem dX2_isNearPiece_97 : decode cX2_isNearPiece 97 = .ok (.lload 13, 2) := by decide +kernel
theorem dX2_isNearPiece_99 : decode cX2_isNearPiece 99 = .ok (.lcmp, 1) := by decide +kernel
theorem dX2_isNearPiece_100 : decode cX2_isNearPiece 100 = .ok (.ifCond .lt 21, 3) := by decide +kernel
theorem dX2_isNearPiece_103 : decode cX2_isNearPiece 103 = .ok (.iload_n 1, 1) := by decide +kernel
theorem dX2_isNearPiece_104 : decode cX2_isNearPiece 104 = .ok (.iload_n 2, 1) := by decide +kernel
theorem dX2_isNearPiece_105 : decode cX2_isNearPiece 105 = .ok (.invokestatic 29, 3) := by decide +kernel
theorem dX2_isNearPiece_108 : decode cX2_isNearPiece 108 = .ok (.ldc2_w 33, 3) := by decide +kernel
theorem dX2_isNearPiece_111 : decode cX2_isNearPiece 111 = .ok (.lcmp, 1) := by decide +kernel
theorem dX2_isNearPiece_112 : decode cX2_isNearPiece 112 = .ok (.ifCond .gt 7, 3) := by decide +kernel
theorem dX2_isNearPiece_115 : decode cX2_isNearPiece 115 = .ok (.iconst 1, 1) := by decide +kernel
theorem dX2_isNearPiece_116 : decode cX2_isNearPiece 116 = .ok (.goto 4, 3) := by decide +kernel
theorem dX2_isNearPiece_119 : decode cX2_isNearPiece 119 = .ok (.iconst 0, 1) := by decide +kernel
theorem dX2_isNearPiece_120 : decode cX2_isNearPiece 120 = .ok (.ireturn, 1) := by decide +kernel
theorem dX2_isNearPiece_121 : decode cX2_isNearPiece 121 = .ok (.lload 7, 2) := by decide +kernel
theorem dX2_isNearPiece_123 : decode cX2_isNearPiece 123 = .ok (.lload 5, 2) := by decide +kernel
theorem dX2_isNearPiece_125 : decode cX2_isNearPiece 125 = .ok (.lmul, 1) := by decide +kernel
theorem dX2_isNearPiece_126 : decode cX2_isNearPiece 126 = .ok (.lload 9, 2) := by decide +kernel
theorem dX2_isNearPiece_128 : decode cX2_isNearPiece 128 = .ok (.lload_n 3, 1) := by decide +kernel
theorem dX2_isNearPiece_129 : decode cX2_isNearPiece 129 = .ok (.lmul, 1) := by decide +kernel
theorem dX2_isNearPiece_130 : decode cX2_isNearPiece 130 = .ok (.lsub, 1) := by decide +kernel
theorem dX2_isNearPiece_131 : decode cX2_isNearPiece 131 = .ok (.lstore 15, 2) := by decide +kernel
theorem dX2_isNearPiece_133 : decode cX2_isNearPiece 133 = .ok (.lload 15, 2) := by decide +kernel
theorem dX2_isNearPiece_135 : decode cX2_isNearPiece 135 = .ok (.lload 15, 2) := by decide +kernel
theorem dX2_isNearPiece_137 : decode cX2_isNearPiece 137 = .ok (.lmul, 1) := by decide +kernel
theorem dX2_isNearPiece_138 : decode cX2_isNearPiece 138 = .ok (.ldc2_w 33, 3) := by decide +kernel
theorem dX2_isNearPiece_141 : decode cX2_isNearPiece 141 = .ok (.lload 13, 2) := by decide +kernel
theorem dX2_isNearPiece_143 : decode cX2_isNearPiece 143 = .ok (.lmul, 1) := by decide +kernel
theorem dX2_isNearPiece_144 : decode cX2_isNearPiece 144 = .ok (.lcmp, 1) := by decide +kernel
theorem dX2_isNearPiece_145 : decode cX2_isNearPiece 145 = .ok (.ifCond .gt 7, 3) := by decide +kernel
theorem dX2_isNearPiece_148 : decode cX2_isNearPiece 148 = .ok (.iconst 1, 1) := by decide +kernel
theorem dX2_isNearPiece_149 : decode cX2_isNearPiece 149 = .ok (.goto 4, 3) := by decide +kernel
theorem dX2_isNearPiece_152 : decode cX2_isNearPiece 152 = .ok (.iconst 0, 1) := by decide +kernel
theorem dX2_isNearPiece_153 : decode cX2_isNearPiece 153 = .ok (.ireturn, 1) := by decide +kernel
theorem dX3_init_0 : decode cX3_init 0 = .ok (.aload_n 0, 1) := by decide +kernel
theorem dX3_init_1 : decode cX3_init 1 = .ok (.invokespecial 3, 3) := by decide +kernel
theorem dX3_init_4 : decode cX3_init 4 = .ok (.aload_n 0, 1) := by decide +kernel
theorem dX3_init_5 : decode cX3_init 5 = .ok (.bipush 8, 2) := by decide +kernel
theorem dX3_init_7 : decode cX3_init 7 = .ok (.newarray .int, 2) := by decide +kernel
theorem dX3_init_9 : decode cX3_init 9 = .ok (.putfield 9, 3) := by decide +kernel
theorem dX3_init_12 : decode cX3_init 12 = .ok (.aload_n 0, 1) := by decide +kernel
theorem dX3_init_13 : decode cX3_init 13 = .ok (.bipush 8, 2) := by decide +kernel
theorem dX3_init_15 : decode cX3_init 15 = .ok (.newarray .int, 2) := by decide +kernel
theorem dX3_init_17 : decode cX3_init 17 = .ok (.putfield 15, 3) := by decide +kernel
theorem dX3_init_20 : decode cX3_init 20 = .ok (.aload_n 0, 1) := by decide +kernel
theorem dX3_init_21 : decode cX3_init 21 = .ok (.bipush 8, 2) := by decide +kernel
theorem dX3_init_23 : decode cX3_init 23 = .ok (.newarray .int, 2) := by decide +kernel
theorem dX3_init_25 : decode cX3_init 25 = .ok (.putfield 18, 3) := by decide +kernel
theorem dX3_init_28 : decode cX3_init 28 = .ok (.aload_n 0, 1) := by decide +kernel
theorem dX3_init_29 : decode cX3_init 29 = .ok (.bipush 8, 2) := by decide +kernel
theorem dX3_init_31 : decode cX3_init 31 = .ok (.newarray .int, 2) := by decide +kernel
theorem dX3_init_33 : decode cX3_init 33 = .ok (.putfield 21, 3) := by decide +kernel
theorem dX3_init_36 : decode cX3_init 36 = .ok (.aload_n 0, 1) := by decide +kernel
theorem dX3_init_37 : decode cX3_init 37 = .ok (.sipush 256, 3) := by decide +kernel
theorem dX3_init_40 : decode cX3_init 40 = .ok (.newarray .int, 2) := by decide +kernel
theorem dX3_init_42 : decode cX3_init 42 = .ok (.putfield 24, 3) := by decide +kernel
theorem dX3_init_45 : decode cX3_init 45 = .ok (.aload_n 0, 1) := by decide +kernel
theorem dX3_init_46 : decode cX3_init 46 = .ok (.getfield 9, 3) := by decide +kernel
theorem dX3_init_49 : decode cX3_init 49 = .ok (.sipush 200, 3) := by decide +kernel
theorem dX3_init_52 : decode cX3_init 52 = .ok (.invokestatic 27, 3) := by decide +kernel
theorem dX3_init_55 : decode cX3_init 55 = .ok (.aload_n 0, 1) := by decide +kernel
theorem dX3_init_56 : decode cX3_init 56 = .ok (.getfield 15, 3) := by decide +kernel
theorem dX3_init_59 : decode cX3_init 59 = .ok (.sipush 600, 3) := by decide +kernel
theorem dX3_init_62 : decode cX3_init 62 = .ok (.invokestatic 27, 3) := by decide +kernel
theorem dX3_init_65 : decode cX3_init 65 = .ok (.aload_n 0, 1) := by decide +kernel
theorem dX3_init_66 : decode cX3_init 66 = .ok (.getfield 18, 3) := by decide +kernel
theorem dX3_init_69 : decode cX3_init 69 = .ok (.iconst 1, 1) := by decide +kernel
theorem dX3_init_70 : decode cX3_init 70 = .ok (.invokestatic 27, 3) := by decide +kernel
theorem dX3_init_73 : decode cX3_init 73 = .ok (.aload_n 0, 1) := by decide +kernel
theorem dX3_init_74 : decode cX3_init 74 = .ok (.getfield 21, 3) := by decide +kernel
theorem dX3_init_77 : decode cX3_init 77 = .ok (.iconst 2, 1) := by decide +kernel
theorem dX3_init_78 : decode cX3_init 78 = .ok (.invokestatic 27, 3) := by decide +kernel
theorem dX3_init_81 : decode cX3_init 81 = .ok (.aload_n 0, 1) := by decide +kernel
theorem dX3_init_82 : decode cX3_init 82 = .ok (.getfield 24, 3) := by decide +kernel
theorem dX3_init_85 : decode cX3_init 85 = .ok (.iconst 1, 1) := by decide +kernel
theorem dX3_init_86 : decode cX3_init 86 = .ok (.invokestatic 27, 3) := by decide +kernel
theorem dX3_init_89 : decode cX3_init 89 = .ok (.return_, 1) := by decide +kernel
theorem dX3_weigh_0 : decode cX3_weigh 0 = .ok (.iconst 0, 1) := by decide +kernel
theorem dX3_weigh_1 : decode cX3_weigh 1 = .ok (.istore_n 3, 1) := by decide +kernel
theorem dX3_weigh_2 : decode cX3_weigh 2 = .ok (.iload_n 2, 1) := by decide +kernel
theorem dX3_weigh_3 : decode cX3_weigh 3 = .ok (.istore 4, 2) := by decide +kernel
theorem dX3_weigh_5 : decode cX3_weigh 5 = .ok (.iconst 0, 1) := by decide +kernel
theorem dX3_weigh_6 : decode cX3_weigh 6 = .ok (.istore 5, 2) := by decide +kernel
theorem dX3_weigh_8 : decode cX3_weigh 8 = .ok (.iload 5, 2) := by decide +kernel
theorem dX3_weigh_10 : decode cX3_weigh 10 = .ok (.bipush 32, 2) := by decide +kernel
theorem dX3_weigh_12 : decode cX3_weigh 12 = .ok (.if_icmp .ge 43, 3) := by decide +kernel
theorem dX3_weigh_15 : decode cX3_weigh 15 = .ok (.iload 4, 2) := by decide +kernel
theorem dX3_weigh_17 : decode cX3_weigh 17 = .ok (.ifCond .eq 38, 3) := by decide +kernel
theorem dX3_weigh_20 : decode cX3_weigh 20 = .ok (.iload 4, 2) := by decide +kernel
theorem dX3_weigh_22 : decode cX3_weigh 22 = .ok (.iconst 1, 1) := by decide +kernel
theorem dX3_weigh_23 : decode cX3_weigh 23 = .ok (.iand, 1) := by decide +kernel
theorem dX3_weigh_24 : decode cX3_weigh 24 = .ok (.iconst 1, 1) := by decide +kernel
theorem dX3_weigh_25 : decode cX3_weigh 25 = .ok (.if_icmp .ne 18, 3) := by decide +kernel
theorem dX3_weigh_28 : decode cX3_weigh 28 = .ok (.iload_n 3, 1) := by decide +kernel
theorem dX3_weigh_29 : decode cX3_weigh 29 = .ok (.aload_n 0, 1) := by decide +kernel
theorem dX3_weigh_30 : decode cX3_weigh 30 = .ok (.getfield 24, 3) := by decide +kernel
theorem dX3_weigh_33 : decode cX3_weigh 33 = .ok (.iload_n 1, 1) := by decide +kernel
theorem dX3_weigh_34 : decode cX3_weigh 34 = .ok (.bipush 32, 2) := by decide +kernel
theorem dX3_weigh_36 : decode cX3_weigh 36 = .ok (.imul, 1) := by decide +kernel
theorem dX3_weigh_37 : decode cX3_weigh 37 = .ok (.iload 5, 2) := by decide +kernel
theorem dX3_weigh_39 : decode cX3_weigh 39 = .ok (.iadd, 1) := by decide +kernel
theorem dX3_weigh_40 : decode cX3_weigh 40 = .ok (.iaload, 1) := by decide +kernel
theorem dX3_weigh_41 : decode cX3_weigh 41 = .ok (.iadd, 1) := by decide +kernel
theorem dX3_weigh_42 : decode cX3_weigh 42 = .ok (.istore_n 3, 1) := by decide +kernel
theorem dX3_weigh_43 : decode cX3_weigh 43 = .ok (.iload 4, 2) := by decide +kernel
theorem dX3_weigh_45 : decode cX3_weigh 45 = .ok (.iconst 1, 1) := by decide +kernel
theorem dX3_weigh_46 : decode cX3_weigh 46 = .ok (.iushr, 1) := by decide +kernel
theorem dX3_weigh_47 : decode cX3_weigh 47 = .ok (.istore 4, 2) := by decide +kernel
theorem dX3_weigh_49 : decode cX3_weigh 49 = .ok (.iinc 5 1, 3) := by decide +kernel
theorem dX3_weigh_52 : decode cX3_weigh 52 = .ok (.goto (-44), 3) := by decide +kernel
theorem dX3_weigh_55 : decode cX3_weigh 55 = .ok (.iload_n 3, 1) := by decide +kernel
theorem dX3_weigh_56 : decode cX3_weigh 56 = .ok (.ireturn, 1) := by decide +kernel
theorem dX3_meetsNeed_0 : decode cX3_meetsNeed 0 = .ok (.iload_n 2, 1) := by decide +kernel
theorem dX3_meetsNeed_1 : decode cX3_meetsNeed 1 = .ok (.aload_n 0, 1) := by decide +kernel
theorem dX3_meetsNeed_2 : decode cX3_meetsNeed 2 = .ok (.getfield 21, 3) := by decide +kernel
theorem dX3_meetsNeed_5 : decode cX3_meetsNeed 5 = .ok (.iload_n 1, 1) := by decide +kernel
theorem dX3_meetsNeed_6 : decode cX3_meetsNeed 6 = .ok (.iaload, 1) := by decide +kernel
theorem dX3_meetsNeed_7 : decode cX3_meetsNeed 7 = .ok (.imul, 1) := by decide +kernel
theorem dX3_meetsNeed_8 : decode cX3_meetsNeed 8 = .ok (.aload_n 0, 1) := by decide +kernel
theorem dX3_meetsNeed_9 : decode cX3_meetsNeed 9 = .ok (.getfield 18, 3) := by decide +kernel
theorem dX3_meetsNeed_12 : decode cX3_meetsNeed 12 = .ok (.iload_n 1, 1) := by decide +kernel
theorem dX3_meetsNeed_13 : decode cX3_meetsNeed 13 = .ok (.iaload, 1) := by decide +kernel
theorem dX3_meetsNeed_14 : decode cX3_meetsNeed 14 = .ok (.iload_n 3, 1) := by decide +kernel
theorem dX3_meetsNeed_15 : decode cX3_meetsNeed 15 = .ok (.imul, 1) := by decide +kernel
theorem dX3_meetsNeed_16 : decode cX3_meetsNeed 16 = .ok (.if_icmp .lt 7, 3) := by decide +kernel
theorem dX3_meetsNeed_19 : decode cX3_meetsNeed 19 = .ok (.iconst 1, 1) := by decide +kernel
theorem dX3_meetsNeed_20 : decode cX3_meetsNeed 20 = .ok (.goto 4, 3) := by decide +kernel
theorem dX3_meetsNeed_23 : decode cX3_meetsNeed 23 = .ok (.iconst 0, 1) := by decide +kernel
theorem dX3_meetsNeed_24 : decode cX3_meetsNeed 24 = .ok (.ireturn, 1) := by decide +kernel
theorem dL_rule_0 : decode cL_rule 0 = .ok (.aload_n 0, 1) := by decide +kernel
theorem dL_rule_1 : decode cL_rule 1 = .ok (.iload_n 1, 1) := by decide +kernel
theorem dL_rule_2 : decode cL_rule 2 = .ok (.iload_n 2, 1) := by decide +kernel
theorem dL_rule_3 : decode cL_rule 3 = .ok (.iload_n 3, 1) := by decide +kernel
theorem dL_rule_4 : decode cL_rule 4 = .ok (.iload 4, 2) := by decide +kernel
theorem dL_rule_6 : decode cL_rule 6 = .ok (.iload 5, 2) := by decide +kernel
theorem dL_rule_8 : decode cL_rule 8 = .ok (.invokevirtual 7, 3) := by decide +kernel
theorem dL_rule_11 : decode cL_rule 11 = .ok (.goto 11, 3) := by decide +kernel
theorem dL_rule_14 : decode cL_rule 14 = .ok (.astore 6, 2) := by decide +kernel
theorem dL_rule_16 : decode cL_rule 16 = .ok (.iconst 1, 1) := by decide +kernel
theorem dL_rule_17 : decode cL_rule 17 = .ok (.ireturn, 1) := by decide +kernel
theorem dL_rule_18 : decode cL_rule 18 = .ok (.astore 6, 2) := by decide +kernel
theorem dL_rule_20 : decode cL_rule 20 = .ok (.iconst 2, 1) := by decide +kernel
theorem dL_rule_21 : decode cL_rule 21 = .ok (.ireturn, 1) := by decide +kernel
theorem dL_rule_22 : decode cL_rule 22 = .ok (.iconst 0, 1) := by decide +kernel
theorem dL_rule_23 : decode cL_rule 23 = .ok (.ireturn, 1) := by decide +kernel
theorem dL_weight_0 : decode cL_weight 0 = .ok (.aload_n 0, 1) := by decide +kernel
theorem dL_weight_1 : decode cL_weight 1 = .ok (.iload_n 1, 1) := by decide +kernel
theorem dL_weight_2 : decode cL_weight 2 = .ok (.iload_n 2, 1) := by decide +kernel
theorem dL_weight_3 : decode cL_weight 3 = .ok (.iload_n 3, 1) := by decide +kernel
theorem dL_weight_4 : decode cL_weight 4 = .ok (.invokevirtual 17, 3) := by decide +kernel
theorem dL_weight_7 : decode cL_weight 7 = .ok (.goto 11, 3) := by decide +kernel
theorem dL_weight_10 : decode cL_weight 10 = .ok (.astore 4, 2) := by decide +kernel
theorem dL_weight_12 : decode cL_weight 12 = .ok (.iconst 1, 1) := by decide +kernel
theorem dL_weight_13 : decode cL_weight 13 = .ok (.ireturn, 1) := by decide +kernel
theorem dL_weight_14 : decode cL_weight 14 = .ok (.astore 4, 2) := by decide +kernel
theorem dL_weight_16 : decode cL_weight 16 = .ok (.iconst 2, 1) := by decide +kernel
theorem dL_weight_17 : decode cL_weight 17 = .ok (.ireturn, 1) := by decide +kernel
theorem dL_weight_18 : decode cL_weight 18 = .ok (.iconst 0, 1) := by decide +kernel
theorem dL_weight_19 : decode cL_weight 19 = .ok (.ireturn, 1) := by decide +kernel
theorem dL_point_0 : decode cL_point 0 = .ok (.aload_n 3, 1) := by decide +kernel
theorem dL_point_1 : decode cL_point 1 = .ok (.iconst 0, 1) := by decide +kernel
theorem dL_point_2 : decode cL_point 2 = .ok (.aload_n 0, 1) := by decide +kernel
theorem dL_point_3 : decode cL_point 3 = .ok (.iload_n 1, 1) := by decide +kernel
theorem dL_point_4 : decode cL_point 4 = .ok (.iload_n 2, 1) := by decide +kernel
theorem dL_point_5 : decode cL_point 5 = .ok (.invokevirtual 21, 3) := by decide +kernel
theorem dL_point_8 : decode cL_point 8 = .ok (.i2l, 1) := by decide +kernel
theorem dL_point_9 : decode cL_point 9 = .ok (.lastore, 1) := by decide +kernel
theorem dL_point_10 : decode cL_point 10 = .ok (.goto 15, 3) := by decide +kernel
theorem dL_point_13 : decode cL_point 13 = .ok (.astore 4, 2) := by decide +kernel
theorem dL_point_15 : decode cL_point 15 = .ok (.iconst 1, 1) := by decide +kernel
theorem dL_point_16 : decode cL_point 16 = .ok (.ireturn, 1) := by decide +kernel
theorem dL_point_17 : decode cL_point 17 = .ok (.astore 4, 2) := by decide +kernel
theorem dL_point_19 : decode cL_point 19 = .ok (.iconst 2, 1) := by decide +kernel
theorem dL_point_20 : decode cL_point 20 = .ok (.ireturn, 1) := by decide +kernel
theorem dL_point_21 : decode cL_point 21 = .ok (.astore 4, 2) := by decide +kernel
theorem dL_point_23 : decode cL_point 23 = .ok (.iconst 3, 1) := by decide +kernel
theorem dL_point_24 : decode cL_point 24 = .ok (.ireturn, 1) := by decide +kernel
theorem dL_point_25 : decode cL_point 25 = .ok (.iconst 0, 1) := by decide +kernel
theorem dL_point_26 : decode cL_point 26 = .ok (.ireturn, 1) := by decide +kernel
theorem dL_call_0 : decode cL_call 0 = .ok (.aload 7, 2) := by decide +kernel
theorem dL_call_2 : decode cL_call 2 = .ok (.iconst 0, 1) := by decide +kernel
theorem dL_call_3 : decode cL_call 3 = .ok (.aload_n 0, 1) := by decide +kernel
theorem dL_call_4 : decode cL_call 4 = .ok (.iload_n 1, 1) := by decide +kernel
theorem dL_call_5 : decode cL_call 5 = .ok (.iload_n 2, 1) := by decide +kernel
theorem dL_call_6 : decode cL_call 6 = .ok (.iload_n 3, 1) := by decide +kernel
theorem dL_call_7 : decode cL_call 7 = .ok (.iload 4, 2) := by decide +kernel
theorem dL_call_9 : decode cL_call 9 = .ok (.iload 5, 2) := by decide +kernel
theorem dL_call_11 : decode cL_call 11 = .ok (.iload 6, 2) := by decide +kernel
theorem dL_call_13 : decode cL_call 13 = .ok (.invokevirtual 27, 3) := by decide +kernel
theorem dL_call_16 : decode cL_call 16 = .ok (.i2l, 1) := by decide +kernel
theorem dL_call_17 : decode cL_call 17 = .ok (.lastore, 1) := by decide +kernel
theorem dL_call_18 : decode cL_call 18 = .ok (.goto 15, 3) := by decide +kernel
theorem dL_call_21 : decode cL_call 21 = .ok (.astore 8, 2) := by decide +kernel
theorem dL_call_23 : decode cL_call 23 = .ok (.iconst 1, 1) := by decide +kernel
theorem dL_call_24 : decode cL_call 24 = .ok (.ireturn, 1) := by decide +kernel
theorem dL_call_25 : decode cL_call 25 = .ok (.astore 8, 2) := by decide +kernel
theorem dL_call_27 : decode cL_call 27 = .ok (.iconst 2, 1) := by decide +kernel
theorem dL_call_28 : decode cL_call 28 = .ok (.ireturn, 1) := by decide +kernel
theorem dL_call_29 : decode cL_call 29 = .ok (.astore 8, 2) := by decide +kernel
theorem dL_call_31 : decode cL_call 31 = .ok (.iconst 3, 1) := by decide +kernel
theorem dL_call_32 : decode cL_call 32 = .ok (.ireturn, 1) := by decide +kernel
theorem dL_call_33 : decode cL_call 33 = .ok (.iconst 0, 1) := by decide +kernel
theorem dL_call_34 : decode cL_call 34 = .ok (.ireturn, 1) := by decide +kernel
theorem dL_reasonFor_0 : decode cL_reasonFor 0 = .ok (.aload 7, 2) := by decide +kernel
theorem dL_reasonFor_2 : decode cL_reasonFor 2 = .ok (.iconst 0, 1) := by decide +kernel
theorem dL_reasonFor_3 : decode cL_reasonFor 3 = .ok (.aload_n 0, 1) := by decide +kernel
theorem dL_reasonFor_4 : decode cL_reasonFor 4 = .ok (.iload_n 1, 1) := by decide +kernel
theorem dL_reasonFor_5 : decode cL_reasonFor 5 = .ok (.iload_n 2, 1) := by decide +kernel
theorem dL_reasonFor_6 : decode cL_reasonFor 6 = .ok (.iload_n 3, 1) := by decide +kernel
theorem dL_reasonFor_7 : decode cL_reasonFor 7 = .ok (.iload 4, 2) := by decide +kernel
theorem dL_reasonFor_9 : decode cL_reasonFor 9 = .ok (.iload 5, 2) := by decide +kernel
theorem dL_reasonFor_11 : decode cL_reasonFor 11 = .ok (.iload 6, 2) := by decide +kernel
theorem dL_reasonFor_13 : decode cL_reasonFor 13 = .ok (.invokevirtual 31, 3) := by decide +kernel
theorem dL_reasonFor_16 : decode cL_reasonFor 16 = .ok (.i2l, 1) := by decide +kernel
theorem dL_reasonFor_17 : decode cL_reasonFor 17 = .ok (.lastore, 1) := by decide +kernel
theorem dL_reasonFor_18 : decode cL_reasonFor 18 = .ok (.goto 11, 3) := by decide +kernel
theorem dL_reasonFor_21 : decode cL_reasonFor 21 = .ok (.astore 8, 2) := by decide +kernel
theorem dL_reasonFor_23 : decode cL_reasonFor 23 = .ok (.iconst 1, 1) := by decide +kernel
theorem dL_reasonFor_24 : decode cL_reasonFor 24 = .ok (.ireturn, 1) := by decide +kernel
theorem dL_reasonFor_25 : decode cL_reasonFor 25 = .ok (.astore 8, 2) := by decide +kernel
theorem dL_reasonFor_27 : decode cL_reasonFor 27 = .ok (.iconst 2, 1) := by decide +kernel
theorem dL_reasonFor_28 : decode cL_reasonFor 28 = .ok (.ireturn, 1) := by decide +kernel
theorem dL_reasonFor_29 : decode cL_reasonFor 29 = .ok (.iconst 0, 1) := by decide +kernel
theorem dL_reasonFor_30 : decode cL_reasonFor 30 = .ok (.ireturn, 1) := by decide +kernel
theorem dL_mark_0 : decode cL_mark 0 = .ok (.aload_n 0, 1) := by decide +kernel
theorem dL_mark_1 : decode cL_mark 1 = .ok (.iload_n 1, 1) := by decide +kernel
theorem dL_mark_2 : decode cL_mark 2 = .ok (.iload_n 2, 1) := by decide +kernel
theorem dL_mark_3 : decode cL_mark 3 = .ok (.invokevirtual 34, 3) := by decide +kernel
theorem dL_mark_6 : decode cL_mark 6 = .ok (.goto 9, 3) := by decide +kernel
theorem dL_mark_9 : decode cL_mark 9 = .ok (.astore_n 3, 1) := by decide +kernel
theorem dL_mark_10 : decode cL_mark 10 = .ok (.iconst 1, 1) := by decide +kernel
theorem dL_mark_11 : decode cL_mark 11 = .ok (.ireturn, 1) := by decide +kernel
theorem dL_mark_12 : decode cL_mark 12 = .ok (.astore_n 3, 1) := by decide +kernel
theorem dL_mark_13 : decode cL_mark 13 = .ok (.iconst 2, 1) := by decide +kernel
theorem dL_mark_14 : decode cL_mark 14 = .ok (.ireturn, 1) := by decide +kernel
theorem dL_mark_15 : decode cL_mark 15 = .ok (.iconst 0, 1) := by decide +kernel
theorem dL_mark_16 : decode cL_mark 16 = .ok (.ireturn, 1) := by decide +kernel
theorem dL_split_0 : decode cL_split 0 = .ok (.aload_n 2, 1) := by decide +kernel
theorem dL_split_1 : decode cL_split 1 = .ok (.iconst 0, 1) := by decide +kernel
theorem dL_split_2 : decode cL_split 2 = .ok (.aload_n 0, 1) := by decide +kernel
theorem dL_split_3 : decode cL_split 3 = .ok (.iload_n 1, 1) := by decide +kernel
theorem dL_split_4 : decode cL_split 4 = .ok (.invokevirtual 38, 3) := by decide +kernel
theorem dL_split_7 : decode cL_split 7 = .ok (.i2l, 1) := by decide +kernel
theorem dL_split_8 : decode cL_split 8 = .ok (.lastore, 1) := by decide +kernel
theorem dL_split_9 : decode cL_split 9 = .ok (.goto 12, 3) := by decide +kernel
theorem dL_split_12 : decode cL_split 12 = .ok (.astore_n 3, 1) := by decide +kernel
theorem dL_split_13 : decode cL_split 13 = .ok (.iconst 1, 1) := by decide +kernel
theorem dL_split_14 : decode cL_split 14 = .ok (.ireturn, 1) := by decide +kernel
theorem dL_split_15 : decode cL_split 15 = .ok (.astore_n 3, 1) := by decide +kernel
theorem dL_split_16 : decode cL_split 16 = .ok (.iconst 2, 1) := by decide +kernel
theorem dL_split_17 : decode cL_split 17 = .ok (.ireturn, 1) := by decide +kernel
theorem dL_split_18 : decode cL_split 18 = .ok (.astore_n 3, 1) := by decide +kernel
theorem dL_split_19 : decode cL_split 19 = .ok (.iconst 3, 1) := by decide +kernel
theorem dL_split_20 : decode cL_split 20 = .ok (.ireturn, 1) := by decide +kernel
theorem dL_split_21 : decode cL_split 21 = .ok (.iconst 0, 1) := by decide +kernel
theorem dL_split_22 : decode cL_split 22 = .ok (.ireturn, 1) := by decide +kernel
theorem dL_merge_0 : decode cL_merge 0 = .ok (.aload_n 3, 1) := by decide +kernel
theorem dL_merge_1 : decode cL_merge 1 = .ok (.iconst 0, 1) := by decide +kernel
theorem dL_merge_2 : decode cL_merge 2 = .ok (.aload_n 0, 1) := by decide +kernel
theorem dL_merge_3 : decode cL_merge 3 = .ok (.iload_n 1, 1) := by decide +kernel
theorem dL_merge_4 : decode cL_merge 4 = .ok (.iload_n 2, 1) := by decide +kernel
theorem dL_merge_5 : decode cL_merge 5 = .ok (.invokevirtual 44, 3) := by decide +kernel
theorem dL_merge_8 : decode cL_merge 8 = .ok (.i2l, 1) := by decide +kernel
theorem dL_merge_9 : decode cL_merge 9 = .ok (.lastore, 1) := by decide +kernel
theorem dL_merge_10 : decode cL_merge 10 = .ok (.goto 11, 3) := by decide +kernel
theorem dL_merge_13 : decode cL_merge 13 = .ok (.astore 4, 2) := by decide +kernel
theorem dL_merge_15 : decode cL_merge 15 = .ok (.iconst 1, 1) := by decide +kernel
theorem dL_merge_16 : decode cL_merge 16 = .ok (.ireturn, 1) := by decide +kernel
theorem dL_merge_17 : decode cL_merge 17 = .ok (.astore 4, 2) := by decide +kernel
theorem dL_merge_19 : decode cL_merge 19 = .ok (.iconst 2, 1) := by decide +kernel
theorem dL_merge_20 : decode cL_merge 20 = .ok (.ireturn, 1) := by decide +kernel
theorem dL_merge_21 : decode cL_merge 21 = .ok (.iconst 0, 1) := by decide +kernel
theorem dL_merge_22 : decode cL_merge 22 = .ok (.ireturn, 1) := by decide +kernel
theorem dL_watch_0 : decode cL_watch 0 = .ok (.aload_n 0, 1) := by decide +kernel
theorem dL_watch_1 : decode cL_watch 1 = .ok (.iload_n 1, 1) := by decide +kernel
theorem dL_watch_2 : decode cL_watch 2 = .ok (.iload_n 2, 1) := by decide +kernel
theorem dL_watch_3 : decode cL_watch 3 = .ok (.iload_n 3, 1) := by decide +kernel
theorem dL_watch_4 : decode cL_watch 4 = .ok (.iload 4, 2) := by decide +kernel
theorem dL_watch_6 : decode cL_watch 6 = .ok (.invokevirtual 47, 3) := by decide +kernel
theorem dL_watch_9 : decode cL_watch 9 = .ok (.goto 15, 3) := by decide +kernel
theorem dL_watch_12 : decode cL_watch 12 = .ok (.astore 5, 2) := by decide +kernel
theorem dL_watch_14 : decode cL_watch 14 = .ok (.iconst 1, 1) := by decide +kernel
theorem dL_watch_15 : decode cL_watch 15 = .ok (.ireturn, 1) := by decide +kernel
theorem dL_watch_16 : decode cL_watch 16 = .ok (.astore 5, 2) := by decide +kernel
theorem dL_watch_18 : decode cL_watch 18 = .ok (.iconst 2, 1) := by decide +kernel
theorem dL_watch_19 : decode cL_watch 19 = .ok (.ireturn, 1) := by decide +kernel
theorem dL_watch_20 : decode cL_watch 20 = .ok (.astore 5, 2) := by decide +kernel
theorem dL_watch_22 : decode cL_watch 22 = .ok (.iconst 3, 1) := by decide +kernel
theorem dL_watch_23 : decode cL_watch 23 = .ok (.ireturn, 1) := by decide +kernel
theorem dL_watch_24 : decode cL_watch 24 = .ok (.iconst 0, 1) := by decide +kernel
theorem dL_watch_25 : decode cL_watch 25 = .ok (.ireturn, 1) := by decide +kernel
theorem dL_state_0 : decode cL_state 0 = .ok (.aload_n 0, 1) := by decide +kernel
theorem dL_state_1 : decode cL_state 1 = .ok (.iload_n 1, 1) := by decide +kernel
theorem dL_state_2 : decode cL_state 2 = .ok (.iload_n 2, 1) := by decide +kernel
theorem dL_state_3 : decode cL_state 3 = .ok (.invokevirtual 51, 3) := by decide +kernel
theorem dL_state_6 : decode cL_state 6 = .ok (.goto 12, 3) := by decide +kernel
theorem dL_state_9 : decode cL_state 9 = .ok (.astore_n 3, 1) := by decide +kernel
theorem dL_state_10 : decode cL_state 10 = .ok (.iconst 1, 1) := by decide +kernel
theorem dL_state_11 : decode cL_state 11 = .ok (.ireturn, 1) := by decide +kernel
theorem dL_state_12 : decode cL_state 12 = .ok (.astore_n 3, 1) := by decide +kernel
theorem dL_state_13 : decode cL_state 13 = .ok (.iconst 2, 1) := by decide +kernel
theorem dL_state_14 : decode cL_state 14 = .ok (.ireturn, 1) := by decide +kernel
theorem dL_state_15 : decode cL_state 15 = .ok (.astore_n 3, 1) := by decide +kernel
theorem dL_state_16 : decode cL_state 16 = .ok (.iconst 3, 1) := by decide +kernel
theorem dL_state_17 : decode cL_state 17 = .ok (.ireturn, 1) := by decide +kernel
theorem dL_state_18 : decode cL_state 18 = .ok (.iconst 0, 1) := by decide +kernel
theorem dL_state_19 : decode cL_state 19 = .ok (.ireturn, 1) := by decide +kernel
theorem dL_share_0 : decode cL_share 0 = .ok (.aload_n 3, 1) := by decide +kernel
theorem dL_share_1 : decode cL_share 1 = .ok (.iconst 0, 1) := by decide +kernel
theorem dL_share_2 : decode cL_share 2 = .ok (.aload_n 0, 1) := by decide +kernel
theorem dL_share_3 : decode cL_share 3 = .ok (.iload_n 1, 1) := by decide +kernel
theorem dL_share_4 : decode cL_share 4 = .ok (.iload_n 2, 1) := by decide +kernel
theorem dL_share_5 : decode cL_share 5 = .ok (.invokevirtual 54, 3) := by decide +kernel
theorem dL_share_8 : decode cL_share 8 = .ok (.i2l, 1) := by decide +kernel
theorem dL_share_9 : decode cL_share 9 = .ok (.lastore, 1) := by decide +kernel
theorem dL_share_10 : decode cL_share 10 = .ok (.goto 11, 3) := by decide +kernel
theorem dL_share_13 : decode cL_share 13 = .ok (.astore 4, 2) := by decide +kernel
theorem dL_share_15 : decode cL_share 15 = .ok (.iconst 1, 1) := by decide +kernel
theorem dL_share_16 : decode cL_share 16 = .ok (.ireturn, 1) := by decide +kernel
theorem dL_share_17 : decode cL_share 17 = .ok (.astore 4, 2) := by decide +kernel
theorem dL_share_19 : decode cL_share 19 = .ok (.iconst 2, 1) := by decide +kernel
theorem dL_share_20 : decode cL_share 20 = .ok (.ireturn, 1) := by decide +kernel
theorem dL_share_21 : decode cL_share 21 = .ok (.iconst 0, 1) := by decide +kernel
theorem dL_share_22 : decode cL_share 22 = .ok (.ireturn, 1) := by decide +kernel
theorem dL_agree_0 : decode cL_agree 0 = .ok (.aload_n 3, 1) := by decide +kernel
theorem dL_agree_1 : decode cL_agree 1 = .ok (.iconst 0, 1) := by decide +kernel
theorem dL_agree_2 : decode cL_agree 2 = .ok (.aload_n 0, 1) := by decide +kernel
theorem dL_agree_3 : decode cL_agree 3 = .ok (.iload_n 1, 1) := by decide +kernel
theorem dL_agree_4 : decode cL_agree 4 = .ok (.iload_n 2, 1) := by decide +kernel
theorem dL_agree_5 : decode cL_agree 5 = .ok (.invokevirtual 59, 3) := by decide +kernel
theorem dL_agree_8 : decode cL_agree 8 = .ok (.i2l, 1) := by decide +kernel
theorem dL_agree_9 : decode cL_agree 9 = .ok (.lastore, 1) := by decide +kernel
theorem dL_agree_10 : decode cL_agree 10 = .ok (.goto 7, 3) := by decide +kernel
theorem dL_agree_13 : decode cL_agree 13 = .ok (.astore 4, 2) := by decide +kernel
theorem dL_agree_15 : decode cL_agree 15 = .ok (.iconst 1, 1) := by decide +kernel
theorem dL_agree_16 : decode cL_agree 16 = .ok (.ireturn, 1) := by decide +kernel
theorem dL_agree_17 : decode cL_agree 17 = .ok (.iconst 0, 1) := by decide +kernel
theorem dL_agree_18 : decode cL_agree 18 = .ok (.ireturn, 1) := by decide +kernel
theorem dL_callAt_0 : decode cL_callAt 0 = .ok (.aload_n 3, 1) := by decide +kernel
theorem dL_callAt_1 : decode cL_callAt 1 = .ok (.iconst 0, 1) := by decide +kernel
theorem dL_callAt_2 : decode cL_callAt 2 = .ok (.aload_n 0, 1) := by decide +kernel
end
section
theorem dL_callAt_3 : decode cL_callAt 3 = .ok (.iload_n 1, 1) := by decide +kernel
theorem dL_callAt_4 : decode cL_callAt 4 = .ok (.iload_n 2, 1) := by decide +kernel
theorem dL_callAt_5 : decode cL_callAt 5 = .ok (.invokevirtual 62, 3) := by decide +kernel
theorem dL_callAt_8 : decode cL_callAt 8 = .ok (.i2l, 1) := by decide +kernel
theorem dL_callAt_9 : decode cL_callAt 9 = .ok (.lastore, 1) := by decide +kernel
theorem dL_callAt_10 : decode cL_callAt 10 = .ok (.goto 7, 3) := by decide +kernel
theorem dL_callAt_13 : decode cL_callAt 13 = .ok (.astore 4, 2) := by decide +kernel
theorem dL_callAt_15 : decode cL_callAt 15 = .ok (.iconst 1, 1) := by decide +kernel
theorem dL_callAt_16 : decode cL_callAt 16 = .ok (.ireturn, 1) := by decide +kernel
theorem dL_callAt_17 : decode cL_callAt 17 = .ok (.iconst 0, 1) := by decide +kernel
theorem dL_callAt_18 : decode cL_callAt 18 = .ok (.ireturn, 1) := by decide +kernel
theorem dL_eventAt_0 : decode cL_eventAt 0 = .ok (.aload_n 3, 1) := by decide +kernel
theorem dL_eventAt_1 : decode cL_eventAt 1 = .ok (.iconst 0, 1) := by decide +kernel
theorem dL_eventAt_2 : decode cL_eventAt 2 = .ok (.aload_n 0, 1) := by decide +kernel
theorem dL_eventAt_3 : decode cL_eventAt 3 = .ok (.iload_n 1, 1) := by decide +kernel
theorem dL_eventAt_4 : decode cL_eventAt 4 = .ok (.iload_n 2, 1) := by decide +kernel
theorem dL_eventAt_5 : decode cL_eventAt 5 = .ok (.invokevirtual 65, 3) := by decide +kernel
theorem dL_eventAt_8 : decode cL_eventAt 8 = .ok (.i2l, 1) := by decide +kernel
theorem dL_eventAt_9 : decode cL_eventAt 9 = .ok (.lastore, 1) := by decide +kernel
theorem dL_eventAt_10 : decode cL_eventAt 10 = .ok (.goto 7, 3) := by decide +kernel
theorem dL_eventAt_13 : decode cL_eventAt 13 = .ok (.astore 4, 2) := by decide +kernel
theorem dL_eventAt_15 : decode cL_eventAt 15 = .ok (.iconst 1, 1) := by decide +kernel
theorem dL_eventAt_16 : decode cL_eventAt 16 = .ok (.ireturn, 1) := by decide +kernel
theorem dL_eventAt_17 : decode cL_eventAt 17 = .ok (.iconst 0, 1) := by decide +kernel
theorem dL_eventAt_18 : decode cL_eventAt 18 = .ok (.ireturn, 1) := by decide +kernel
theorem dL_member_0 : decode cL_member 0 = .ok (.aload_n 3, 1) := by decide +kernel
theorem dL_member_1 : decode cL_member 1 = .ok (.iconst 0, 1) := by decide +kernel
theorem dL_member_2 : decode cL_member 2 = .ok (.aload_n 0, 1) := by decide +kernel
theorem dL_member_3 : decode cL_member 3 = .ok (.iload_n 1, 1) := by decide +kernel
theorem dL_member_4 : decode cL_member 4 = .ok (.iload_n 2, 1) := by decide +kernel
theorem dL_member_5 : decode cL_member 5 = .ok (.invokevirtual 68, 3) := by decide +kernel
theorem dL_member_8 : decode cL_member 8 = .ok (.i2l, 1) := by decide +kernel
theorem dL_member_9 : decode cL_member 9 = .ok (.lastore, 1) := by decide +kernel
theorem dL_member_10 : decode cL_member 10 = .ok (.goto 11, 3) := by decide +kernel
theorem dL_member_13 : decode cL_member 13 = .ok (.astore 4, 2) := by decide +kernel
theorem dL_member_15 : decode cL_member 15 = .ok (.iconst 1, 1) := by decide +kernel
theorem dL_member_16 : decode cL_member 16 = .ok (.ireturn, 1) := by decide +kernel
theorem dL_member_17 : decode cL_member 17 = .ok (.astore 4, 2) := by decide +kernel
theorem dL_member_19 : decode cL_member 19 = .ok (.iconst 2, 1) := by decide +kernel
theorem dL_member_20 : decode cL_member 20 = .ok (.ireturn, 1) := by decide +kernel
theorem dL_member_21 : decode cL_member 21 = .ok (.iconst 0, 1) := by decide +kernel
theorem dL_member_22 : decode cL_member 22 = .ok (.ireturn, 1) := by decide +kernel
theorem dL_count_0 : decode cL_count 0 = .ok (.aload_n 2, 1) := by decide +kernel
theorem dL_count_1 : decode cL_count 1 = .ok (.iconst 0, 1) := by decide +kernel
theorem dL_count_2 : decode cL_count 2 = .ok (.aload_n 0, 1) := by decide +kernel
theorem dL_count_3 : decode cL_count 3 = .ok (.iload_n 1, 1) := by decide +kernel
theorem dL_count_4 : decode cL_count 4 = .ok (.invokevirtual 71, 3) := by decide +kernel
theorem dL_count_7 : decode cL_count 7 = .ok (.i2l, 1) := by decide +kernel
theorem dL_count_8 : decode cL_count 8 = .ok (.lastore, 1) := by decide +kernel
theorem dL_count_9 : decode cL_count 9 = .ok (.goto 6, 3) := by decide +kernel
theorem dL_count_12 : decode cL_count 12 = .ok (.astore_n 3, 1) := by decide +kernel
theorem dL_count_13 : decode cL_count 13 = .ok (.iconst 1, 1) := by decide +kernel
theorem dL_count_14 : decode cL_count 14 = .ok (.ireturn, 1) := by decide +kernel
theorem dL_count_15 : decode cL_count 15 = .ok (.iconst 0, 1) := by decide +kernel
theorem dL_count_16 : decode cL_count 16 = .ok (.ireturn, 1) := by decide +kernel
theorem dL_law_0 : decode cL_law 0 = .ok (.new 8, 3) := by decide +kernel
theorem dL_law_3 : decode cL_law 3 = .ok (.dup, 1) := by decide +kernel
theorem dL_law_4 : decode cL_law 4 = .ok (.invokespecial 74, 3) := by decide +kernel
theorem dL_law_7 : decode cL_law 7 = .ok (.astore_n 1, 1) := by decide +kernel
theorem dL_law_8 : decode cL_law 8 = .ok (.new 75, 3) := by decide +kernel
theorem dL_law_11 : decode cL_law 11 = .ok (.dup, 1) := by decide +kernel
theorem dL_law_12 : decode cL_law 12 = .ok (.invokespecial 77, 3) := by decide +kernel
theorem dL_law_15 : decode cL_law 15 = .ok (.astore_n 2, 1) := by decide +kernel
theorem dL_law_16 : decode cL_law 16 = .ok (.iconst 1, 1) := by decide +kernel
theorem dL_law_17 : decode cL_law 17 = .ok (.newarray .long, 2) := by decide +kernel
theorem dL_law_19 : decode cL_law 19 = .ok (.astore_n 3, 1) := by decide +kernel
theorem dL_law_20 : decode cL_law 20 = .ok (.iconst 0, 1) := by decide +kernel
theorem dL_law_21 : decode cL_law 21 = .ok (.istore 4, 2) := by decide +kernel
theorem dL_law_23 : decode cL_law 23 = .ok (.iload 4, 2) := by decide +kernel
theorem dL_law_25 : decode cL_law 25 = .ok (.aload_n 0, 1) := by decide +kernel
theorem dL_law_26 : decode cL_law 26 = .ok (.arraylength, 1) := by decide +kernel
theorem dL_law_27 : decode cL_law 27 = .ok (.bipush 7, 2) := by decide +kernel
theorem dL_law_29 : decode cL_law 29 = .ok (.isub, 1) := by decide +kernel
theorem dL_law_30 : decode cL_law 30 = .ok (.if_icmp .gt 1232, 3) := by decide +kernel
theorem dL_law_33 : decode cL_law 33 = .ok (.aload_n 0, 1) := by decide +kernel
theorem dL_law_34 : decode cL_law 34 = .ok (.iload 4, 2) := by decide +kernel
theorem dL_law_36 : decode cL_law 36 = .ok (.iaload, 1) := by decide +kernel
theorem dL_law_37 : decode cL_law 37 = .ok (.bipush 15, 2) := by decide +kernel
theorem dL_law_39 : decode cL_law 39 = .ok (.iand, 1) := by decide +kernel
theorem dL_law_40 : decode cL_law 40 = .ok (.tableswitch 1216 0 15 #[80, 164, 224, 292, 410, 528, 576, 632, 700, 772, 820, 888, 956, 1024, 1092, 1160], 80) := by decide +kernel
theorem dL_law_120 : decode cL_law 120 = .ok (.aload_n 1, 1) := by decide +kernel
theorem dL_law_121 : decode cL_law 121 = .ok (.aload_n 0, 1) := by decide +kernel
theorem dL_law_122 : decode cL_law 122 = .ok (.iload 4, 2) := by decide +kernel
theorem dL_law_124 : decode cL_law 124 = .ok (.iconst 1, 1) := by decide +kernel
theorem dL_law_125 : decode cL_law 125 = .ok (.iadd, 1) := by decide +kernel
theorem dL_law_126 : decode cL_law 126 = .ok (.iaload, 1) := by decide +kernel
theorem dL_law_127 : decode cL_law 127 = .ok (.aload_n 0, 1) := by decide +kernel
theorem dL_law_128 : decode cL_law 128 = .ok (.iload 4, 2) := by decide +kernel
theorem dL_law_130 : decode cL_law 130 = .ok (.iconst 2, 1) := by decide +kernel
theorem dL_law_131 : decode cL_law 131 = .ok (.iadd, 1) := by decide +kernel
theorem dL_law_132 : decode cL_law 132 = .ok (.iaload, 1) := by decide +kernel
theorem dL_law_133 : decode cL_law 133 = .ok (.aload_n 0, 1) := by decide +kernel
theorem dL_law_134 : decode cL_law 134 = .ok (.iload 4, 2) := by decide +kernel
theorem dL_law_136 : decode cL_law 136 = .ok (.iconst 3, 1) := by decide +kernel
theorem dL_law_137 : decode cL_law 137 = .ok (.iadd, 1) := by decide +kernel
theorem dL_law_138 : decode cL_law 138 = .ok (.iaload, 1) := by decide +kernel
theorem dL_law_139 : decode cL_law 139 = .ok (.aload_n 0, 1) := by decide +kernel
theorem dL_law_140 : decode cL_law 140 = .ok (.iload 4, 2) := by decide +kernel
theorem dL_law_142 : decode cL_law 142 = .ok (.iconst 4, 1) := by decide +kernel
theorem dL_law_143 : decode cL_law 143 = .ok (.iadd, 1) := by decide +kernel
theorem dL_law_144 : decode cL_law 144 = .ok (.iaload, 1) := by decide +kernel
theorem dL_law_145 : decode cL_law 145 = .ok (.aload_n 0, 1) := by decide +kernel
theorem dL_law_146 : decode cL_law 146 = .ok (.iload 4, 2) := by decide +kernel
theorem dL_law_148 : decode cL_law 148 = .ok (.iconst 5, 1) := by decide +kernel
theorem dL_law_149 : decode cL_law 149 = .ok (.iadd, 1) := by decide +kernel
theorem dL_law_150 : decode cL_law 150 = .ok (.iaload, 1) := by decide +kernel
theorem dL_law_151 : decode cL_law 151 = .ok (.invokestatic 78, 3) := by decide +kernel
theorem dL_law_154 : decode cL_law 154 = .ok (.istore 5, 2) := by decide +kernel
theorem dL_law_156 : decode cL_law 156 = .ok (.aload_n 2, 1) := by decide +kernel
theorem dL_law_157 : decode cL_law 157 = .ok (.aload_n 0, 1) := by decide +kernel
theorem dL_law_158 : decode cL_law 158 = .ok (.iload 4, 2) := by decide +kernel
theorem dL_law_160 : decode cL_law 160 = .ok (.iconst 1, 1) := by decide +kernel
theorem dL_law_161 : decode cL_law 161 = .ok (.iadd, 1) := by decide +kernel
theorem dL_law_162 : decode cL_law 162 = .ok (.iaload, 1) := by decide +kernel
theorem dL_law_163 : decode cL_law 163 = .ok (.aload_n 0, 1) := by decide +kernel
theorem dL_law_164 : decode cL_law 164 = .ok (.iload 4, 2) := by decide +kernel
theorem dL_law_166 : decode cL_law 166 = .ok (.iconst 2, 1) := by decide +kernel
theorem dL_law_167 : decode cL_law 167 = .ok (.iadd, 1) := by decide +kernel
theorem dL_law_168 : decode cL_law 168 = .ok (.iaload, 1) := by decide +kernel
theorem dL_law_169 : decode cL_law 169 = .ok (.aload_n 0, 1) := by decide +kernel
theorem dL_law_170 : decode cL_law 170 = .ok (.iload 4, 2) := by decide +kernel
theorem dL_law_172 : decode cL_law 172 = .ok (.iconst 3, 1) := by decide +kernel
theorem dL_law_173 : decode cL_law 173 = .ok (.iadd, 1) := by decide +kernel
theorem dL_law_174 : decode cL_law 174 = .ok (.iaload, 1) := by decide +kernel
theorem dL_law_175 : decode cL_law 175 = .ok (.aload_n 0, 1) := by decide +kernel
theorem dL_law_176 : decode cL_law 176 = .ok (.iload 4, 2) := by decide +kernel
theorem dL_law_178 : decode cL_law 178 = .ok (.iconst 4, 1) := by decide +kernel
theorem dL_law_179 : decode cL_law 179 = .ok (.iadd, 1) := by decide +kernel
theorem dL_law_180 : decode cL_law 180 = .ok (.iaload, 1) := by decide +kernel
theorem dL_law_181 : decode cL_law 181 = .ok (.aload_n 0, 1) := by decide +kernel
theorem dL_law_182 : decode cL_law 182 = .ok (.iload 4, 2) := by decide +kernel
theorem dL_law_184 : decode cL_law 184 = .ok (.iconst 5, 1) := by decide +kernel
theorem dL_law_185 : decode cL_law 185 = .ok (.iadd, 1) := by decide +kernel
theorem dL_law_186 : decode cL_law 186 = .ok (.iaload, 1) := by decide +kernel
theorem dL_law_187 : decode cL_law 187 = .ok (.invokevirtual 83, 3) := by decide +kernel
theorem dL_law_190 : decode cL_law 190 = .ok (.aload_n 2, 1) := by decide +kernel
theorem dL_law_191 : decode cL_law 191 = .ok (.invokevirtual 84, 3) := by decide +kernel
theorem dL_law_194 : decode cL_law 194 = .ok (.iload 5, 2) := by decide +kernel
theorem dL_law_196 : decode cL_law 196 = .ok (.if_icmp .eq 5, 3) := by decide +kernel
theorem dL_law_199 : decode cL_law 199 = .ok (.iconst 0, 1) := by decide +kernel
theorem dL_law_200 : decode cL_law 200 = .ok (.ireturn, 1) := by decide +kernel
theorem dL_law_201 : decode cL_law 201 = .ok (.goto 1055, 3) := by decide +kernel
theorem dL_law_204 : decode cL_law 204 = .ok (.aload_n 1, 1) := by decide +kernel
theorem dL_law_205 : decode cL_law 205 = .ok (.aload_n 0, 1) := by decide +kernel
theorem dL_law_206 : decode cL_law 206 = .ok (.iload 4, 2) := by decide +kernel
theorem dL_law_208 : decode cL_law 208 = .ok (.iconst 1, 1) := by decide +kernel
theorem dL_law_209 : decode cL_law 209 = .ok (.iadd, 1) := by decide +kernel
theorem dL_law_210 : decode cL_law 210 = .ok (.iaload, 1) := by decide +kernel
theorem dL_law_211 : decode cL_law 211 = .ok (.aload_n 0, 1) := by decide +kernel
theorem dL_law_212 : decode cL_law 212 = .ok (.iload 4, 2) := by decide +kernel
theorem dL_law_214 : decode cL_law 214 = .ok (.iconst 2, 1) := by decide +kernel
theorem dL_law_215 : decode cL_law 215 = .ok (.iadd, 1) := by decide +kernel
theorem dL_law_216 : decode cL_law 216 = .ok (.iaload, 1) := by decide +kernel
theorem dL_law_217 : decode cL_law 217 = .ok (.aload_n 0, 1) := by decide +kernel
theorem dL_law_218 : decode cL_law 218 = .ok (.iload 4, 2) := by decide +kernel
theorem dL_law_220 : decode cL_law 220 = .ok (.iconst 3, 1) := by decide +kernel
theorem dL_law_221 : decode cL_law 221 = .ok (.iadd, 1) := by decide +kernel
theorem dL_law_222 : decode cL_law 222 = .ok (.iaload, 1) := by decide +kernel
theorem dL_law_223 : decode cL_law 223 = .ok (.invokestatic 88, 3) := by decide +kernel
theorem dL_law_226 : decode cL_law 226 = .ok (.istore 5, 2) := by decide +kernel
theorem dL_law_228 : decode cL_law 228 = .ok (.aload_n 2, 1) := by decide +kernel
theorem dL_law_229 : decode cL_law 229 = .ok (.aload_n 0, 1) := by decide +kernel
theorem dL_law_230 : decode cL_law 230 = .ok (.iload 4, 2) := by decide +kernel
theorem dL_law_232 : decode cL_law 232 = .ok (.iconst 1, 1) := by decide +kernel
theorem dL_law_233 : decode cL_law 233 = .ok (.iadd, 1) := by decide +kernel
theorem dL_law_234 : decode cL_law 234 = .ok (.iaload, 1) := by decide +kernel
theorem dL_law_235 : decode cL_law 235 = .ok (.aload_n 0, 1) := by decide +kernel
theorem dL_law_236 : decode cL_law 236 = .ok (.iload 4, 2) := by decide +kernel
theorem dL_law_238 : decode cL_law 238 = .ok (.iconst 2, 1) := by decide +kernel
theorem dL_law_239 : decode cL_law 239 = .ok (.iadd, 1) := by decide +kernel
theorem dL_law_240 : decode cL_law 240 = .ok (.iaload, 1) := by decide +kernel
theorem dL_law_241 : decode cL_law 241 = .ok (.aload_n 0, 1) := by decide +kernel
theorem dL_law_242 : decode cL_law 242 = .ok (.iload 4, 2) := by decide +kernel
theorem dL_law_244 : decode cL_law 244 = .ok (.iconst 3, 1) := by decide +kernel
theorem dL_law_245 : decode cL_law 245 = .ok (.iadd, 1) := by decide +kernel
theorem dL_law_246 : decode cL_law 246 = .ok (.iaload, 1) := by decide +kernel
theorem dL_law_247 : decode cL_law 247 = .ok (.invokevirtual 91, 3) := by decide +kernel
theorem dL_law_250 : decode cL_law 250 = .ok (.aload_n 2, 1) := by decide +kernel
theorem dL_law_251 : decode cL_law 251 = .ok (.invokevirtual 84, 3) := by decide +kernel
theorem dL_law_254 : decode cL_law 254 = .ok (.iload 5, 2) := by decide +kernel
theorem dL_law_256 : decode cL_law 256 = .ok (.if_icmp .eq 5, 3) := by decide +kernel
theorem dL_law_259 : decode cL_law 259 = .ok (.iconst 0, 1) := by decide +kernel
theorem dL_law_260 : decode cL_law 260 = .ok (.ireturn, 1) := by decide +kernel
theorem dL_law_261 : decode cL_law 261 = .ok (.goto 995, 3) := by decide +kernel
theorem dL_law_264 : decode cL_law 264 = .ok (.aload_n 1, 1) := by decide +kernel
theorem dL_law_265 : decode cL_law 265 = .ok (.aload_n 0, 1) := by decide +kernel
theorem dL_law_266 : decode cL_law 266 = .ok (.iload 4, 2) := by decide +kernel
theorem dL_law_268 : decode cL_law 268 = .ok (.iconst 1, 1) := by decide +kernel
theorem dL_law_269 : decode cL_law 269 = .ok (.iadd, 1) := by decide +kernel
theorem dL_law_270 : decode cL_law 270 = .ok (.iaload, 1) := by decide +kernel
theorem dL_law_271 : decode cL_law 271 = .ok (.aload_n 0, 1) := by decide +kernel
theorem dL_law_272 : decode cL_law 272 = .ok (.iload 4, 2) := by decide +kernel
theorem dL_law_274 : decode cL_law 274 = .ok (.iconst 2, 1) := by decide +kernel
theorem dL_law_275 : decode cL_law 275 = .ok (.iadd, 1) := by decide +kernel
theorem dL_law_276 : decode cL_law 276 = .ok (.iaload, 1) := by decide +kernel
theorem dL_law_277 : decode cL_law 277 = .ok (.aload_n 3, 1) := by decide +kernel
theorem dL_law_278 : decode cL_law 278 = .ok (.invokestatic 92, 3) := by decide +kernel
theorem dL_law_281 : decode cL_law 281 = .ok (.istore 5, 2) := by decide +kernel
theorem dL_law_283 : decode cL_law 283 = .ok (.aload_n 2, 1) := by decide +kernel
theorem dL_law_284 : decode cL_law 284 = .ok (.aload_n 0, 1) := by decide +kernel
theorem dL_law_285 : decode cL_law 285 = .ok (.iload 4, 2) := by decide +kernel
theorem dL_law_287 : decode cL_law 287 = .ok (.iconst 1, 1) := by decide +kernel
theorem dL_law_288 : decode cL_law 288 = .ok (.iadd, 1) := by decide +kernel
theorem dL_law_289 : decode cL_law 289 = .ok (.iaload, 1) := by decide +kernel
theorem dL_law_290 : decode cL_law 290 = .ok (.aload_n 0, 1) := by decide +kernel
theorem dL_law_291 : decode cL_law 291 = .ok (.iload 4, 2) := by decide +kernel
theorem dL_law_293 : decode cL_law 293 = .ok (.iconst 2, 1) := by decide +kernel
theorem dL_law_294 : decode cL_law 294 = .ok (.iadd, 1) := by decide +kernel
theorem dL_law_295 : decode cL_law 295 = .ok (.iaload, 1) := by decide +kernel
theorem dL_law_296 : decode cL_law 296 = .ok (.invokevirtual 95, 3) := by decide +kernel
theorem dL_law_299 : decode cL_law 299 = .ok (.istore 6, 2) := by decide +kernel
theorem dL_law_301 : decode cL_law 301 = .ok (.aload_n 2, 1) := by decide +kernel
theorem dL_law_302 : decode cL_law 302 = .ok (.invokevirtual 84, 3) := by decide +kernel
theorem dL_law_305 : decode cL_law 305 = .ok (.iload 5, 2) := by decide +kernel
theorem dL_law_307 : decode cL_law 307 = .ok (.if_icmp .eq 5, 3) := by decide +kernel
theorem dL_law_310 : decode cL_law 310 = .ok (.iconst 0, 1) := by decide +kernel
theorem dL_law_311 : decode cL_law 311 = .ok (.ireturn, 1) := by decide +kernel
theorem dL_law_312 : decode cL_law 312 = .ok (.iload 5, 2) := by decide +kernel
theorem dL_law_314 : decode cL_law 314 = .ok (.ifCond .ne 15, 3) := by decide +kernel
theorem dL_law_317 : decode cL_law 317 = .ok (.aload_n 3, 1) := by decide +kernel
theorem dL_law_318 : decode cL_law 318 = .ok (.iconst 0, 1) := by decide +kernel
theorem dL_law_319 : decode cL_law 319 = .ok (.laload, 1) := by decide +kernel
theorem dL_law_320 : decode cL_law 320 = .ok (.iload 6, 2) := by decide +kernel
theorem dL_law_322 : decode cL_law 322 = .ok (.i2l, 1) := by decide +kernel
theorem dL_law_323 : decode cL_law 323 = .ok (.lcmp, 1) := by decide +kernel
theorem dL_law_324 : decode cL_law 324 = .ok (.ifCond .eq 5, 3) := by decide +kernel
theorem dL_law_327 : decode cL_law 327 = .ok (.iconst 0, 1) := by decide +kernel
theorem dL_law_328 : decode cL_law 328 = .ok (.ireturn, 1) := by decide +kernel
theorem dL_law_329 : decode cL_law 329 = .ok (.goto 927, 3) := by decide +kernel
theorem dL_law_332 : decode cL_law 332 = .ok (.aload_n 1, 1) := by decide +kernel
theorem dL_law_333 : decode cL_law 333 = .ok (.aload_n 0, 1) := by decide +kernel
theorem dL_law_334 : decode cL_law 334 = .ok (.iload 4, 2) := by decide +kernel
theorem dL_law_336 : decode cL_law 336 = .ok (.iconst 1, 1) := by decide +kernel
theorem dL_law_337 : decode cL_law 337 = .ok (.iadd, 1) := by decide +kernel
theorem dL_law_338 : decode cL_law 338 = .ok (.iaload, 1) := by decide +kernel
theorem dL_law_339 : decode cL_law 339 = .ok (.aload_n 0, 1) := by decide +kernel
theorem dL_law_340 : decode cL_law 340 = .ok (.iload 4, 2) := by decide +kernel
theorem dL_law_342 : decode cL_law 342 = .ok (.iconst 2, 1) := by decide +kernel
theorem dL_law_343 : decode cL_law 343 = .ok (.iadd, 1) := by decide +kernel
theorem dL_law_344 : decode cL_law 344 = .ok (.iaload, 1) := by decide +kernel
theorem dL_law_345 : decode cL_law 345 = .ok (.aload_n 0, 1) := by decide +kernel
theorem dL_law_346 : decode cL_law 346 = .ok (.iload 4, 2) := by decide +kernel
theorem dL_law_348 : decode cL_law 348 = .ok (.iconst 3, 1) := by decide +kernel
theorem dL_law_349 : decode cL_law 349 = .ok (.iadd, 1) := by decide +kernel
theorem dL_law_350 : decode cL_law 350 = .ok (.iaload, 1) := by decide +kernel
theorem dL_law_351 : decode cL_law 351 = .ok (.aload_n 0, 1) := by decide +kernel
theorem dL_law_352 : decode cL_law 352 = .ok (.iload 4, 2) := by decide +kernel
theorem dL_law_354 : decode cL_law 354 = .ok (.iconst 4, 1) := by decide +kernel
theorem dL_law_355 : decode cL_law 355 = .ok (.iadd, 1) := by decide +kernel
theorem dL_law_356 : decode cL_law 356 = .ok (.iaload, 1) := by decide +kernel
theorem dL_law_357 : decode cL_law 357 = .ok (.aload_n 0, 1) := by decide +kernel
theorem dL_law_358 : decode cL_law 358 = .ok (.iload 4, 2) := by decide +kernel
theorem dL_law_360 : decode cL_law 360 = .ok (.iconst 5, 1) := by decide +kernel
theorem dL_law_361 : decode cL_law 361 = .ok (.iadd, 1) := by decide +kernel
theorem dL_law_362 : decode cL_law 362 = .ok (.iaload, 1) := by decide +kernel
theorem dL_law_363 : decode cL_law 363 = .ok (.aload_n 0, 1) := by decide +kernel
theorem dL_law_364 : decode cL_law 364 = .ok (.iload 4, 2) := by decide +kernel
theorem dL_law_366 : decode cL_law 366 = .ok (.bipush 6, 2) := by decide +kernel
theorem dL_law_368 : decode cL_law 368 = .ok (.iadd, 1) := by decide +kernel
theorem dL_law_369 : decode cL_law 369 = .ok (.iaload, 1) := by decide +kernel
theorem dL_law_370 : decode cL_law 370 = .ok (.aload_n 3, 1) := by decide +kernel
theorem dL_law_371 : decode cL_law 371 = .ok (.invokestatic 96, 3) := by decide +kernel
theorem dL_law_374 : decode cL_law 374 = .ok (.istore 5, 2) := by decide +kernel
theorem dL_law_376 : decode cL_law 376 = .ok (.aload_n 2, 1) := by decide +kernel
theorem dL_law_377 : decode cL_law 377 = .ok (.aload_n 0, 1) := by decide +kernel
theorem dL_law_378 : decode cL_law 378 = .ok (.iload 4, 2) := by decide +kernel
theorem dL_law_380 : decode cL_law 380 = .ok (.iconst 1, 1) := by decide +kernel
theorem dL_law_381 : decode cL_law 381 = .ok (.iadd, 1) := by decide +kernel
theorem dL_law_382 : decode cL_law 382 = .ok (.iaload, 1) := by decide +kernel
theorem dL_law_383 : decode cL_law 383 = .ok (.aload_n 0, 1) := by decide +kernel
theorem dL_law_384 : decode cL_law 384 = .ok (.iload 4, 2) := by decide +kernel
theorem dL_law_386 : decode cL_law 386 = .ok (.iconst 2, 1) := by decide +kernel
theorem dL_law_387 : decode cL_law 387 = .ok (.iadd, 1) := by decide +kernel
theorem dL_law_388 : decode cL_law 388 = .ok (.iaload, 1) := by decide +kernel
theorem dL_law_389 : decode cL_law 389 = .ok (.aload_n 0, 1) := by decide +kernel
theorem dL_law_390 : decode cL_law 390 = .ok (.iload 4, 2) := by decide +kernel
theorem dL_law_392 : decode cL_law 392 = .ok (.iconst 3, 1) := by decide +kernel
theorem dL_law_393 : decode cL_law 393 = .ok (.iadd, 1) := by decide +kernel
theorem dL_law_394 : decode cL_law 394 = .ok (.iaload, 1) := by decide +kernel
theorem dL_law_395 : decode cL_law 395 = .ok (.aload_n 0, 1) := by decide +kernel
theorem dL_law_396 : decode cL_law 396 = .ok (.iload 4, 2) := by decide +kernel
theorem dL_law_398 : decode cL_law 398 = .ok (.iconst 4, 1) := by decide +kernel
theorem dL_law_399 : decode cL_law 399 = .ok (.iadd, 1) := by decide +kernel
theorem dL_law_400 : decode cL_law 400 = .ok (.iaload, 1) := by decide +kernel
theorem dL_law_401 : decode cL_law 401 = .ok (.aload_n 0, 1) := by decide +kernel
theorem dL_law_402 : decode cL_law 402 = .ok (.iload 4, 2) := by decide +kernel
theorem dL_law_404 : decode cL_law 404 = .ok (.iconst 5, 1) := by decide +kernel
theorem dL_law_405 : decode cL_law 405 = .ok (.iadd, 1) := by decide +kernel
theorem dL_law_406 : decode cL_law 406 = .ok (.iaload, 1) := by decide +kernel
theorem dL_law_407 : decode cL_law 407 = .ok (.aload_n 0, 1) := by decide +kernel
theorem dL_law_408 : decode cL_law 408 = .ok (.iload 4, 2) := by decide +kernel
theorem dL_law_410 : decode cL_law 410 = .ok (.bipush 6, 2) := by decide +kernel
theorem dL_law_412 : decode cL_law 412 = .ok (.iadd, 1) := by decide +kernel
theorem dL_law_413 : decode cL_law 413 = .ok (.iaload, 1) := by decide +kernel
theorem dL_law_414 : decode cL_law 414 = .ok (.invokevirtual 99, 3) := by decide +kernel
theorem dL_law_417 : decode cL_law 417 = .ok (.istore 6, 2) := by decide +kernel
theorem dL_law_419 : decode cL_law 419 = .ok (.aload_n 2, 1) := by decide +kernel
theorem dL_law_420 : decode cL_law 420 = .ok (.invokevirtual 84, 3) := by decide +kernel
theorem dL_law_423 : decode cL_law 423 = .ok (.iload 5, 2) := by decide +kernel
theorem dL_law_425 : decode cL_law 425 = .ok (.if_icmp .eq 5, 3) := by decide +kernel
theorem dL_law_428 : decode cL_law 428 = .ok (.iconst 0, 1) := by decide +kernel
theorem dL_law_429 : decode cL_law 429 = .ok (.ireturn, 1) := by decide +kernel
theorem dL_law_430 : decode cL_law 430 = .ok (.iload 5, 2) := by decide +kernel
theorem dL_law_432 : decode cL_law 432 = .ok (.ifCond .ne 15, 3) := by decide +kernel
theorem dL_law_435 : decode cL_law 435 = .ok (.aload_n 3, 1) := by decide +kernel
theorem dL_law_436 : decode cL_law 436 = .ok (.iconst 0, 1) := by decide +kernel
theorem dL_law_437 : decode cL_law 437 = .ok (.laload, 1) := by decide +kernel
theorem dL_law_438 : decode cL_law 438 = .ok (.iload 6, 2) := by decide +kernel
theorem dL_law_440 : decode cL_law 440 = .ok (.i2l, 1) := by decide +kernel
theorem dL_law_441 : decode cL_law 441 = .ok (.lcmp, 1) := by decide +kernel
theorem dL_law_442 : decode cL_law 442 = .ok (.ifCond .eq 5, 3) := by decide +kernel
theorem dL_law_445 : decode cL_law 445 = .ok (.iconst 0, 1) := by decide +kernel
theorem dL_law_446 : decode cL_law 446 = .ok (.ireturn, 1) := by decide +kernel
theorem dL_law_447 : decode cL_law 447 = .ok (.goto 809, 3) := by decide +kernel
theorem dL_law_450 : decode cL_law 450 = .ok (.aload_n 1, 1) := by decide +kernel
theorem dL_law_451 : decode cL_law 451 = .ok (.aload_n 0, 1) := by decide +kernel
theorem dL_law_452 : decode cL_law 452 = .ok (.iload 4, 2) := by decide +kernel
theorem dL_law_454 : decode cL_law 454 = .ok (.iconst 1, 1) := by decide +kernel
theorem dL_law_455 : decode cL_law 455 = .ok (.iadd, 1) := by decide +kernel
theorem dL_law_456 : decode cL_law 456 = .ok (.iaload, 1) := by decide +kernel
theorem dL_law_457 : decode cL_law 457 = .ok (.aload_n 0, 1) := by decide +kernel
theorem dL_law_458 : decode cL_law 458 = .ok (.iload 4, 2) := by decide +kernel
theorem dL_law_460 : decode cL_law 460 = .ok (.iconst 2, 1) := by decide +kernel
theorem dL_law_461 : decode cL_law 461 = .ok (.iadd, 1) := by decide +kernel
theorem dL_law_462 : decode cL_law 462 = .ok (.iaload, 1) := by decide +kernel
theorem dL_law_463 : decode cL_law 463 = .ok (.aload_n 0, 1) := by decide +kernel
theorem dL_law_464 : decode cL_law 464 = .ok (.iload 4, 2) := by decide +kernel
theorem dL_law_466 : decode cL_law 466 = .ok (.iconst 3, 1) := by decide +kernel
theorem dL_law_467 : decode cL_law 467 = .ok (.iadd, 1) := by decide +kernel
theorem dL_law_468 : decode cL_law 468 = .ok (.iaload, 1) := by decide +kernel
theorem dL_law_469 : decode cL_law 469 = .ok (.aload_n 0, 1) := by decide +kernel
theorem dL_law_470 : decode cL_law 470 = .ok (.iload 4, 2) := by decide +kernel
theorem dL_law_472 : decode cL_law 472 = .ok (.iconst 4, 1) := by decide +kernel
theorem dL_law_473 : decode cL_law 473 = .ok (.iadd, 1) := by decide +kernel
theorem dL_law_474 : decode cL_law 474 = .ok (.iaload, 1) := by decide +kernel
theorem dL_law_475 : decode cL_law 475 = .ok (.aload_n 0, 1) := by decide +kernel
theorem dL_law_476 : decode cL_law 476 = .ok (.iload 4, 2) := by decide +kernel
theorem dL_law_478 : decode cL_law 478 = .ok (.iconst 5, 1) := by decide +kernel
theorem dL_law_479 : decode cL_law 479 = .ok (.iadd, 1) := by decide +kernel
theorem dL_law_480 : decode cL_law 480 = .ok (.iaload, 1) := by decide +kernel
theorem dL_law_481 : decode cL_law 481 = .ok (.aload_n 0, 1) := by decide +kernel
theorem dL_law_482 : decode cL_law 482 = .ok (.iload 4, 2) := by decide +kernel
theorem dL_law_484 : decode cL_law 484 = .ok (.bipush 6, 2) := by decide +kernel
theorem dL_law_486 : decode cL_law 486 = .ok (.iadd, 1) := by decide +kernel
theorem dL_law_487 : decode cL_law 487 = .ok (.iaload, 1) := by decide +kernel
theorem dL_law_488 : decode cL_law 488 = .ok (.aload_n 3, 1) := by decide +kernel
theorem dL_law_489 : decode cL_law 489 = .ok (.invokestatic 100, 3) := by decide +kernel
theorem dL_law_492 : decode cL_law 492 = .ok (.istore 5, 2) := by decide +kernel
theorem dL_law_494 : decode cL_law 494 = .ok (.aload_n 2, 1) := by decide +kernel
theorem dL_law_495 : decode cL_law 495 = .ok (.aload_n 0, 1) := by decide +kernel
theorem dL_law_496 : decode cL_law 496 = .ok (.iload 4, 2) := by decide +kernel
theorem dL_law_498 : decode cL_law 498 = .ok (.iconst 1, 1) := by decide +kernel
theorem dL_law_499 : decode cL_law 499 = .ok (.iadd, 1) := by decide +kernel
theorem dL_law_500 : decode cL_law 500 = .ok (.iaload, 1) := by decide +kernel
theorem dL_law_501 : decode cL_law 501 = .ok (.aload_n 0, 1) := by decide +kernel
theorem dL_law_502 : decode cL_law 502 = .ok (.iload 4, 2) := by decide +kernel
theorem dL_law_504 : decode cL_law 504 = .ok (.iconst 2, 1) := by decide +kernel
theorem dL_law_505 : decode cL_law 505 = .ok (.iadd, 1) := by decide +kernel
theorem dL_law_506 : decode cL_law 506 = .ok (.iaload, 1) := by decide +kernel
theorem dL_law_507 : decode cL_law 507 = .ok (.aload_n 0, 1) := by decide +kernel
theorem dL_law_508 : decode cL_law 508 = .ok (.iload 4, 2) := by decide +kernel
theorem dL_law_510 : decode cL_law 510 = .ok (.iconst 3, 1) := by decide +kernel
theorem dL_law_511 : decode cL_law 511 = .ok (.iadd, 1) := by decide +kernel
theorem dL_law_512 : decode cL_law 512 = .ok (.iaload, 1) := by decide +kernel
theorem dL_law_513 : decode cL_law 513 = .ok (.aload_n 0, 1) := by decide +kernel
theorem dL_law_514 : decode cL_law 514 = .ok (.iload 4, 2) := by decide +kernel
theorem dL_law_516 : decode cL_law 516 = .ok (.iconst 4, 1) := by decide +kernel
theorem dL_law_517 : decode cL_law 517 = .ok (.iadd, 1) := by decide +kernel
theorem dL_law_518 : decode cL_law 518 = .ok (.iaload, 1) := by decide +kernel
theorem dL_law_519 : decode cL_law 519 = .ok (.aload_n 0, 1) := by decide +kernel
theorem dL_law_520 : decode cL_law 520 = .ok (.iload 4, 2) := by decide +kernel
theorem dL_law_522 : decode cL_law 522 = .ok (.iconst 5, 1) := by decide +kernel
theorem dL_law_523 : decode cL_law 523 = .ok (.iadd, 1) := by decide +kernel
theorem dL_law_524 : decode cL_law 524 = .ok (.iaload, 1) := by decide +kernel
theorem dL_law_525 : decode cL_law 525 = .ok (.aload_n 0, 1) := by decide +kernel
theorem dL_law_526 : decode cL_law 526 = .ok (.iload 4, 2) := by decide +kernel
theorem dL_law_528 : decode cL_law 528 = .ok (.bipush 6, 2) := by decide +kernel
theorem dL_law_530 : decode cL_law 530 = .ok (.iadd, 1) := by decide +kernel
theorem dL_law_531 : decode cL_law 531 = .ok (.iaload, 1) := by decide +kernel
theorem dL_law_532 : decode cL_law 532 = .ok (.invokevirtual 102, 3) := by decide +kernel
theorem dL_law_535 : decode cL_law 535 = .ok (.istore 6, 2) := by decide +kernel
theorem dL_law_537 : decode cL_law 537 = .ok (.aload_n 2, 1) := by decide +kernel
theorem dL_law_538 : decode cL_law 538 = .ok (.invokevirtual 84, 3) := by decide +kernel
theorem dL_law_541 : decode cL_law 541 = .ok (.iload 5, 2) := by decide +kernel
theorem dL_law_543 : decode cL_law 543 = .ok (.if_icmp .eq 5, 3) := by decide +kernel
theorem dL_law_546 : decode cL_law 546 = .ok (.iconst 0, 1) := by decide +kernel
theorem dL_law_547 : decode cL_law 547 = .ok (.ireturn, 1) := by decide +kernel
theorem dL_law_548 : decode cL_law 548 = .ok (.iload 5, 2) := by decide +kernel
theorem dL_law_550 : decode cL_law 550 = .ok (.ifCond .ne 15, 3) := by decide +kernel
theorem dL_law_553 : decode cL_law 553 = .ok (.aload_n 3, 1) := by decide +kernel
theorem dL_law_554 : decode cL_law 554 = .ok (.iconst 0, 1) := by decide +kernel
theorem dL_law_555 : decode cL_law 555 = .ok (.laload, 1) := by decide +kernel
theorem dL_law_556 : decode cL_law 556 = .ok (.iload 6, 2) := by decide +kernel
theorem dL_law_558 : decode cL_law 558 = .ok (.i2l, 1) := by decide +kernel
theorem dL_law_559 : decode cL_law 559 = .ok (.lcmp, 1) := by decide +kernel
theorem dL_law_560 : decode cL_law 560 = .ok (.ifCond .eq 5, 3) := by decide +kernel
theorem dL_law_563 : decode cL_law 563 = .ok (.iconst 0, 1) := by decide +kernel
theorem dL_law_564 : decode cL_law 564 = .ok (.ireturn, 1) := by decide +kernel
theorem dL_law_565 : decode cL_law 565 = .ok (.goto 691, 3) := by decide +kernel
theorem dL_law_568 : decode cL_law 568 = .ok (.aload_n 1, 1) := by decide +kernel
theorem dL_law_569 : decode cL_law 569 = .ok (.aload_n 0, 1) := by decide +kernel
theorem dL_law_570 : decode cL_law 570 = .ok (.iload 4, 2) := by decide +kernel
theorem dL_law_572 : decode cL_law 572 = .ok (.iconst 1, 1) := by decide +kernel
theorem dL_law_573 : decode cL_law 573 = .ok (.iadd, 1) := by decide +kernel
theorem dL_law_574 : decode cL_law 574 = .ok (.iaload, 1) := by decide +kernel
theorem dL_law_575 : decode cL_law 575 = .ok (.aload_n 0, 1) := by decide +kernel
theorem dL_law_576 : decode cL_law 576 = .ok (.iload 4, 2) := by decide +kernel
theorem dL_law_578 : decode cL_law 578 = .ok (.iconst 2, 1) := by decide +kernel
theorem dL_law_579 : decode cL_law 579 = .ok (.iadd, 1) := by decide +kernel
theorem dL_law_580 : decode cL_law 580 = .ok (.iaload, 1) := by decide +kernel
theorem dL_law_581 : decode cL_law 581 = .ok (.invokestatic 103, 3) := by decide +kernel
theorem dL_law_584 : decode cL_law 584 = .ok (.istore 5, 2) := by decide +kernel
theorem dL_law_586 : decode cL_law 586 = .ok (.aload_n 2, 1) := by decide +kernel
theorem dL_law_587 : decode cL_law 587 = .ok (.aload_n 0, 1) := by decide +kernel
theorem dL_law_588 : decode cL_law 588 = .ok (.iload 4, 2) := by decide +kernel
theorem dL_law_590 : decode cL_law 590 = .ok (.iconst 1, 1) := by decide +kernel
theorem dL_law_591 : decode cL_law 591 = .ok (.iadd, 1) := by decide +kernel
theorem dL_law_592 : decode cL_law 592 = .ok (.iaload, 1) := by decide +kernel
theorem dL_law_593 : decode cL_law 593 = .ok (.aload_n 0, 1) := by decide +kernel
theorem dL_law_594 : decode cL_law 594 = .ok (.iload 4, 2) := by decide +kernel
theorem dL_law_596 : decode cL_law 596 = .ok (.iconst 2, 1) := by decide +kernel
theorem dL_law_597 : decode cL_law 597 = .ok (.iadd, 1) := by decide +kernel
theorem dL_law_598 : decode cL_law 598 = .ok (.iaload, 1) := by decide +kernel
theorem dL_law_599 : decode cL_law 599 = .ok (.invokevirtual 106, 3) := by decide +kernel
theorem dL_law_602 : decode cL_law 602 = .ok (.aload_n 2, 1) := by decide +kernel
theorem dL_law_603 : decode cL_law 603 = .ok (.invokevirtual 84, 3) := by decide +kernel
theorem dL_law_606 : decode cL_law 606 = .ok (.iload 5, 2) := by decide +kernel
theorem dL_law_608 : decode cL_law 608 = .ok (.if_icmp .eq 5, 3) := by decide +kernel
theorem dL_law_611 : decode cL_law 611 = .ok (.iconst 0, 1) := by decide +kernel
theorem dL_law_612 : decode cL_law 612 = .ok (.ireturn, 1) := by decide +kernel
theorem dL_law_613 : decode cL_law 613 = .ok (.goto 643, 3) := by decide +kernel
theorem dL_law_616 : decode cL_law 616 = .ok (.aload_n 1, 1) := by decide +kernel
theorem dL_law_617 : decode cL_law 617 = .ok (.aload_n 0, 1) := by decide +kernel
theorem dL_law_618 : decode cL_law 618 = .ok (.iload 4, 2) := by decide +kernel
theorem dL_law_620 : decode cL_law 620 = .ok (.iconst 1, 1) := by decide +kernel
theorem dL_law_621 : decode cL_law 621 = .ok (.iadd, 1) := by decide +kernel
theorem dL_law_622 : decode cL_law 622 = .ok (.iaload, 1) := by decide +kernel
theorem dL_law_623 : decode cL_law 623 = .ok (.aload_n 3, 1) := by decide +kernel
theorem dL_law_624 : decode cL_law 624 = .ok (.invokestatic 107, 3) := by decide +kernel
theorem dL_law_627 : decode cL_law 627 = .ok (.istore 5, 2) := by decide +kernel
theorem dL_law_629 : decode cL_law 629 = .ok (.aload_n 2, 1) := by decide +kernel
theorem dL_law_630 : decode cL_law 630 = .ok (.aload_n 0, 1) := by decide +kernel
theorem dL_law_631 : decode cL_law 631 = .ok (.iload 4, 2) := by decide +kernel
theorem dL_law_633 : decode cL_law 633 = .ok (.iconst 1, 1) := by decide +kernel
theorem dL_law_634 : decode cL_law 634 = .ok (.iadd, 1) := by decide +kernel
theorem dL_law_635 : decode cL_law 635 = .ok (.iaload, 1) := by decide +kernel
theorem dL_law_636 : decode cL_law 636 = .ok (.invokevirtual 110, 3) := by decide +kernel
theorem dL_law_639 : decode cL_law 639 = .ok (.istore 6, 2) := by decide +kernel
theorem dL_law_641 : decode cL_law 641 = .ok (.aload_n 2, 1) := by decide +kernel
theorem dL_law_642 : decode cL_law 642 = .ok (.invokevirtual 84, 3) := by decide +kernel
end
section
theorem dL_law_645 : decode cL_law 645 = .ok (.iload 5, 2) := by decide +kernel
theorem dL_law_647 : decode cL_law 647 = .ok (.if_icmp .eq 5, 3) := by decide +kernel
theorem dL_law_650 : decode cL_law 650 = .ok (.iconst 0, 1) := by decide +kernel
theorem dL_law_651 : decode cL_law 651 = .ok (.ireturn, 1) := by decide +kernel
theorem dL_law_652 : decode cL_law 652 = .ok (.iload 5, 2) := by decide +kernel
theorem dL_law_654 : decode cL_law 654 = .ok (.ifCond .ne 15, 3) := by decide +kernel
theorem dL_law_657 : decode cL_law 657 = .ok (.aload_n 3, 1) := by decide +kernel
theorem dL_law_658 : decode cL_law 658 = .ok (.iconst 0, 1) := by decide +kernel
theorem dL_law_659 : decode cL_law 659 = .ok (.laload, 1) := by decide +kernel
theorem dL_law_660 : decode cL_law 660 = .ok (.iload 6, 2) := by decide +kernel
theorem dL_law_662 : decode cL_law 662 = .ok (.i2l, 1) := by decide +kernel
theorem dL_law_663 : decode cL_law 663 = .ok (.lcmp, 1) := by decide +kernel
theorem dL_law_664 : decode cL_law 664 = .ok (.ifCond .eq 5, 3) := by decide +kernel
theorem dL_law_667 : decode cL_law 667 = .ok (.iconst 0, 1) := by decide +kernel
theorem dL_law_668 : decode cL_law 668 = .ok (.ireturn, 1) := by decide +kernel
theorem dL_law_669 : decode cL_law 669 = .ok (.goto 587, 3) := by decide +kernel
theorem dL_law_672 : decode cL_law 672 = .ok (.aload_n 1, 1) := by decide +kernel
theorem dL_law_673 : decode cL_law 673 = .ok (.aload_n 0, 1) := by decide +kernel
theorem dL_law_674 : decode cL_law 674 = .ok (.iload 4, 2) := by decide +kernel
theorem dL_law_676 : decode cL_law 676 = .ok (.iconst 1, 1) := by decide +kernel
theorem dL_law_677 : decode cL_law 677 = .ok (.iadd, 1) := by decide +kernel
theorem dL_law_678 : decode cL_law 678 = .ok (.iaload, 1) := by decide +kernel
theorem dL_law_679 : decode cL_law 679 = .ok (.aload_n 0, 1) := by decide +kernel
theorem dL_law_680 : decode cL_law 680 = .ok (.iload 4, 2) := by decide +kernel
theorem dL_law_682 : decode cL_law 682 = .ok (.iconst 2, 1) := by decide +kernel
theorem dL_law_683 : decode cL_law 683 = .ok (.iadd, 1) := by decide +kernel
theorem dL_law_684 : decode cL_law 684 = .ok (.iaload, 1) := by decide +kernel
theorem dL_law_685 : decode cL_law 685 = .ok (.aload_n 3, 1) := by decide +kernel
theorem dL_law_686 : decode cL_law 686 = .ok (.invokestatic 111, 3) := by decide +kernel
theorem dL_law_689 : decode cL_law 689 = .ok (.istore 5, 2) := by decide +kernel
theorem dL_law_691 : decode cL_law 691 = .ok (.aload_n 2, 1) := by decide +kernel
theorem dL_law_692 : decode cL_law 692 = .ok (.aload_n 0, 1) := by decide +kernel
theorem dL_law_693 : decode cL_law 693 = .ok (.iload 4, 2) := by decide +kernel
theorem dL_law_695 : decode cL_law 695 = .ok (.iconst 1, 1) := by decide +kernel
theorem dL_law_696 : decode cL_law 696 = .ok (.iadd, 1) := by decide +kernel
theorem dL_law_697 : decode cL_law 697 = .ok (.iaload, 1) := by decide +kernel
theorem dL_law_698 : decode cL_law 698 = .ok (.aload_n 0, 1) := by decide +kernel
theorem dL_law_699 : decode cL_law 699 = .ok (.iload 4, 2) := by decide +kernel
theorem dL_law_701 : decode cL_law 701 = .ok (.iconst 2, 1) := by decide +kernel
theorem dL_law_702 : decode cL_law 702 = .ok (.iadd, 1) := by decide +kernel
theorem dL_law_703 : decode cL_law 703 = .ok (.iaload, 1) := by decide +kernel
theorem dL_law_704 : decode cL_law 704 = .ok (.invokevirtual 113, 3) := by decide +kernel
theorem dL_law_707 : decode cL_law 707 = .ok (.istore 6, 2) := by decide +kernel
theorem dL_law_709 : decode cL_law 709 = .ok (.aload_n 2, 1) := by decide +kernel
theorem dL_law_710 : decode cL_law 710 = .ok (.invokevirtual 84, 3) := by decide +kernel
theorem dL_law_713 : decode cL_law 713 = .ok (.iload 5, 2) := by decide +kernel
theorem dL_law_715 : decode cL_law 715 = .ok (.if_icmp .eq 5, 3) := by decide +kernel
theorem dL_law_718 : decode cL_law 718 = .ok (.iconst 0, 1) := by decide +kernel
theorem dL_law_719 : decode cL_law 719 = .ok (.ireturn, 1) := by decide +kernel
theorem dL_law_720 : decode cL_law 720 = .ok (.iload 5, 2) := by decide +kernel
theorem dL_law_722 : decode cL_law 722 = .ok (.ifCond .ne 15, 3) := by decide +kernel
theorem dL_law_725 : decode cL_law 725 = .ok (.aload_n 3, 1) := by decide +kernel
theorem dL_law_726 : decode cL_law 726 = .ok (.iconst 0, 1) := by decide +kernel
theorem dL_law_727 : decode cL_law 727 = .ok (.laload, 1) := by decide +kernel
theorem dL_law_728 : decode cL_law 728 = .ok (.iload 6, 2) := by decide +kernel
theorem dL_law_730 : decode cL_law 730 = .ok (.i2l, 1) := by decide +kernel
theorem dL_law_731 : decode cL_law 731 = .ok (.lcmp, 1) := by decide +kernel
theorem dL_law_732 : decode cL_law 732 = .ok (.ifCond .eq 5, 3) := by decide +kernel
theorem dL_law_735 : decode cL_law 735 = .ok (.iconst 0, 1) := by decide +kernel
theorem dL_law_736 : decode cL_law 736 = .ok (.ireturn, 1) := by decide +kernel
theorem dL_law_737 : decode cL_law 737 = .ok (.goto 519, 3) := by decide +kernel
theorem dL_law_740 : decode cL_law 740 = .ok (.aload_n 1, 1) := by decide +kernel
theorem dL_law_741 : decode cL_law 741 = .ok (.aload_n 0, 1) := by decide +kernel
theorem dL_law_742 : decode cL_law 742 = .ok (.iload 4, 2) := by decide +kernel
theorem dL_law_744 : decode cL_law 744 = .ok (.iconst 1, 1) := by decide +kernel
theorem dL_law_745 : decode cL_law 745 = .ok (.iadd, 1) := by decide +kernel
theorem dL_law_746 : decode cL_law 746 = .ok (.iaload, 1) := by decide +kernel
theorem dL_law_747 : decode cL_law 747 = .ok (.aload_n 0, 1) := by decide +kernel
theorem dL_law_748 : decode cL_law 748 = .ok (.iload 4, 2) := by decide +kernel
theorem dL_law_750 : decode cL_law 750 = .ok (.iconst 2, 1) := by decide +kernel
theorem dL_law_751 : decode cL_law 751 = .ok (.iadd, 1) := by decide +kernel
theorem dL_law_752 : decode cL_law 752 = .ok (.iaload, 1) := by decide +kernel
theorem dL_law_753 : decode cL_law 753 = .ok (.aload_n 0, 1) := by decide +kernel
theorem dL_law_754 : decode cL_law 754 = .ok (.iload 4, 2) := by decide +kernel
theorem dL_law_756 : decode cL_law 756 = .ok (.iconst 3, 1) := by decide +kernel
theorem dL_law_757 : decode cL_law 757 = .ok (.iadd, 1) := by decide +kernel
theorem dL_law_758 : decode cL_law 758 = .ok (.iaload, 1) := by decide +kernel
theorem dL_law_759 : decode cL_law 759 = .ok (.aload_n 0, 1) := by decide +kernel
theorem dL_law_760 : decode cL_law 760 = .ok (.iload 4, 2) := by decide +kernel
theorem dL_law_762 : decode cL_law 762 = .ok (.iconst 4, 1) := by decide +kernel
theorem dL_law_763 : decode cL_law 763 = .ok (.iadd, 1) := by decide +kernel
theorem dL_law_764 : decode cL_law 764 = .ok (.iaload, 1) := by decide +kernel
theorem dL_law_765 : decode cL_law 765 = .ok (.invokestatic 114, 3) := by decide +kernel
theorem dL_law_768 : decode cL_law 768 = .ok (.istore 5, 2) := by decide +kernel
theorem dL_law_770 : decode cL_law 770 = .ok (.aload_n 2, 1) := by decide +kernel
theorem dL_law_771 : decode cL_law 771 = .ok (.aload_n 0, 1) := by decide +kernel
theorem dL_law_772 : decode cL_law 772 = .ok (.iload 4, 2) := by decide +kernel
theorem dL_law_774 : decode cL_law 774 = .ok (.iconst 1, 1) := by decide +kernel
theorem dL_law_775 : decode cL_law 775 = .ok (.iadd, 1) := by decide +kernel
theorem dL_law_776 : decode cL_law 776 = .ok (.iaload, 1) := by decide +kernel
theorem dL_law_777 : decode cL_law 777 = .ok (.aload_n 0, 1) := by decide +kernel
theorem dL_law_778 : decode cL_law 778 = .ok (.iload 4, 2) := by decide +kernel
theorem dL_law_780 : decode cL_law 780 = .ok (.iconst 2, 1) := by decide +kernel
theorem dL_law_781 : decode cL_law 781 = .ok (.iadd, 1) := by decide +kernel
theorem dL_law_782 : decode cL_law 782 = .ok (.iaload, 1) := by decide +kernel
theorem dL_law_783 : decode cL_law 783 = .ok (.aload_n 0, 1) := by decide +kernel
theorem dL_law_784 : decode cL_law 784 = .ok (.iload 4, 2) := by decide +kernel
theorem dL_law_786 : decode cL_law 786 = .ok (.iconst 3, 1) := by decide +kernel
theorem dL_law_787 : decode cL_law 787 = .ok (.iadd, 1) := by decide +kernel
theorem dL_law_788 : decode cL_law 788 = .ok (.iaload, 1) := by decide +kernel
theorem dL_law_789 : decode cL_law 789 = .ok (.aload_n 0, 1) := by decide +kernel
theorem dL_law_790 : decode cL_law 790 = .ok (.iload 4, 2) := by decide +kernel
theorem dL_law_792 : decode cL_law 792 = .ok (.iconst 4, 1) := by decide +kernel
theorem dL_law_793 : decode cL_law 793 = .ok (.iadd, 1) := by decide +kernel
theorem dL_law_794 : decode cL_law 794 = .ok (.iaload, 1) := by decide +kernel
theorem dL_law_795 : decode cL_law 795 = .ok (.invokevirtual 117, 3) := by decide +kernel
theorem dL_law_798 : decode cL_law 798 = .ok (.aload_n 2, 1) := by decide +kernel
theorem dL_law_799 : decode cL_law 799 = .ok (.invokevirtual 84, 3) := by decide +kernel
theorem dL_law_802 : decode cL_law 802 = .ok (.iload 5, 2) := by decide +kernel
theorem dL_law_804 : decode cL_law 804 = .ok (.if_icmp .eq 5, 3) := by decide +kernel
theorem dL_law_807 : decode cL_law 807 = .ok (.iconst 0, 1) := by decide +kernel
theorem dL_law_808 : decode cL_law 808 = .ok (.ireturn, 1) := by decide +kernel
theorem dL_law_809 : decode cL_law 809 = .ok (.goto 447, 3) := by decide +kernel
theorem dL_law_812 : decode cL_law 812 = .ok (.aload_n 1, 1) := by decide +kernel
theorem dL_law_813 : decode cL_law 813 = .ok (.aload_n 0, 1) := by decide +kernel
theorem dL_law_814 : decode cL_law 814 = .ok (.iload 4, 2) := by decide +kernel
theorem dL_law_816 : decode cL_law 816 = .ok (.iconst 1, 1) := by decide +kernel
theorem dL_law_817 : decode cL_law 817 = .ok (.iadd, 1) := by decide +kernel
theorem dL_law_818 : decode cL_law 818 = .ok (.iaload, 1) := by decide +kernel
theorem dL_law_819 : decode cL_law 819 = .ok (.aload_n 0, 1) := by decide +kernel
theorem dL_law_820 : decode cL_law 820 = .ok (.iload 4, 2) := by decide +kernel
theorem dL_law_822 : decode cL_law 822 = .ok (.iconst 2, 1) := by decide +kernel
theorem dL_law_823 : decode cL_law 823 = .ok (.iadd, 1) := by decide +kernel
theorem dL_law_824 : decode cL_law 824 = .ok (.iaload, 1) := by decide +kernel
theorem dL_law_825 : decode cL_law 825 = .ok (.invokestatic 118, 3) := by decide +kernel
theorem dL_law_828 : decode cL_law 828 = .ok (.istore 5, 2) := by decide +kernel
theorem dL_law_830 : decode cL_law 830 = .ok (.aload_n 2, 1) := by decide +kernel
theorem dL_law_831 : decode cL_law 831 = .ok (.aload_n 0, 1) := by decide +kernel
theorem dL_law_832 : decode cL_law 832 = .ok (.iload 4, 2) := by decide +kernel
theorem dL_law_834 : decode cL_law 834 = .ok (.iconst 1, 1) := by decide +kernel
theorem dL_law_835 : decode cL_law 835 = .ok (.iadd, 1) := by decide +kernel
theorem dL_law_836 : decode cL_law 836 = .ok (.iaload, 1) := by decide +kernel
theorem dL_law_837 : decode cL_law 837 = .ok (.aload_n 0, 1) := by decide +kernel
theorem dL_law_838 : decode cL_law 838 = .ok (.iload 4, 2) := by decide +kernel
theorem dL_law_840 : decode cL_law 840 = .ok (.iconst 2, 1) := by decide +kernel
theorem dL_law_841 : decode cL_law 841 = .ok (.iadd, 1) := by decide +kernel
theorem dL_law_842 : decode cL_law 842 = .ok (.iaload, 1) := by decide +kernel
theorem dL_law_843 : decode cL_law 843 = .ok (.invokevirtual 120, 3) := by decide +kernel
theorem dL_law_846 : decode cL_law 846 = .ok (.aload_n 2, 1) := by decide +kernel
theorem dL_law_847 : decode cL_law 847 = .ok (.invokevirtual 84, 3) := by decide +kernel
theorem dL_law_850 : decode cL_law 850 = .ok (.iload 5, 2) := by decide +kernel
theorem dL_law_852 : decode cL_law 852 = .ok (.if_icmp .eq 5, 3) := by decide +kernel
theorem dL_law_855 : decode cL_law 855 = .ok (.iconst 0, 1) := by decide +kernel
theorem dL_law_856 : decode cL_law 856 = .ok (.ireturn, 1) := by decide +kernel
theorem dL_law_857 : decode cL_law 857 = .ok (.goto 399, 3) := by decide +kernel
theorem dL_law_860 : decode cL_law 860 = .ok (.aload_n 1, 1) := by decide +kernel
theorem dL_law_861 : decode cL_law 861 = .ok (.aload_n 0, 1) := by decide +kernel
theorem dL_law_862 : decode cL_law 862 = .ok (.iload 4, 2) := by decide +kernel
theorem dL_law_864 : decode cL_law 864 = .ok (.iconst 1, 1) := by decide +kernel
theorem dL_law_865 : decode cL_law 865 = .ok (.iadd, 1) := by decide +kernel
theorem dL_law_866 : decode cL_law 866 = .ok (.iaload, 1) := by decide +kernel
theorem dL_law_867 : decode cL_law 867 = .ok (.aload_n 0, 1) := by decide +kernel
theorem dL_law_868 : decode cL_law 868 = .ok (.iload 4, 2) := by decide +kernel
theorem dL_law_870 : decode cL_law 870 = .ok (.iconst 2, 1) := by decide +kernel
theorem dL_law_871 : decode cL_law 871 = .ok (.iadd, 1) := by decide +kernel
theorem dL_law_872 : decode cL_law 872 = .ok (.iaload, 1) := by decide +kernel
theorem dL_law_873 : decode cL_law 873 = .ok (.aload_n 3, 1) := by decide +kernel
theorem dL_law_874 : decode cL_law 874 = .ok (.invokestatic 121, 3) := by decide +kernel
theorem dL_law_877 : decode cL_law 877 = .ok (.istore 5, 2) := by decide +kernel
theorem dL_law_879 : decode cL_law 879 = .ok (.aload_n 2, 1) := by decide +kernel
theorem dL_law_880 : decode cL_law 880 = .ok (.aload_n 0, 1) := by decide +kernel
theorem dL_law_881 : decode cL_law 881 = .ok (.iload 4, 2) := by decide +kernel
theorem dL_law_883 : decode cL_law 883 = .ok (.iconst 1, 1) := by decide +kernel
theorem dL_law_884 : decode cL_law 884 = .ok (.iadd, 1) := by decide +kernel
theorem dL_law_885 : decode cL_law 885 = .ok (.iaload, 1) := by decide +kernel
theorem dL_law_886 : decode cL_law 886 = .ok (.aload_n 0, 1) := by decide +kernel
theorem dL_law_887 : decode cL_law 887 = .ok (.iload 4, 2) := by decide +kernel
theorem dL_law_889 : decode cL_law 889 = .ok (.iconst 2, 1) := by decide +kernel
theorem dL_law_890 : decode cL_law 890 = .ok (.iadd, 1) := by decide +kernel
theorem dL_law_891 : decode cL_law 891 = .ok (.iaload, 1) := by decide +kernel
theorem dL_law_892 : decode cL_law 892 = .ok (.invokevirtual 123, 3) := by decide +kernel
theorem dL_law_895 : decode cL_law 895 = .ok (.istore 6, 2) := by decide +kernel
theorem dL_law_897 : decode cL_law 897 = .ok (.aload_n 2, 1) := by decide +kernel
theorem dL_law_898 : decode cL_law 898 = .ok (.invokevirtual 84, 3) := by decide +kernel
theorem dL_law_901 : decode cL_law 901 = .ok (.iload 5, 2) := by decide +kernel
theorem dL_law_903 : decode cL_law 903 = .ok (.if_icmp .eq 5, 3) := by decide +kernel
theorem dL_law_906 : decode cL_law 906 = .ok (.iconst 0, 1) := by decide +kernel
theorem dL_law_907 : decode cL_law 907 = .ok (.ireturn, 1) := by decide +kernel
theorem dL_law_908 : decode cL_law 908 = .ok (.iload 5, 2) := by decide +kernel
theorem dL_law_910 : decode cL_law 910 = .ok (.ifCond .ne 15, 3) := by decide +kernel
theorem dL_law_913 : decode cL_law 913 = .ok (.aload_n 3, 1) := by decide +kernel
theorem dL_law_914 : decode cL_law 914 = .ok (.iconst 0, 1) := by decide +kernel
theorem dL_law_915 : decode cL_law 915 = .ok (.laload, 1) := by decide +kernel
theorem dL_law_916 : decode cL_law 916 = .ok (.iload 6, 2) := by decide +kernel
theorem dL_law_918 : decode cL_law 918 = .ok (.i2l, 1) := by decide +kernel
theorem dL_law_919 : decode cL_law 919 = .ok (.lcmp, 1) := by decide +kernel
theorem dL_law_920 : decode cL_law 920 = .ok (.ifCond .eq 5, 3) := by decide +kernel
theorem dL_law_923 : decode cL_law 923 = .ok (.iconst 0, 1) := by decide +kernel
theorem dL_law_924 : decode cL_law 924 = .ok (.ireturn, 1) := by decide +kernel
theorem dL_law_925 : decode cL_law 925 = .ok (.goto 331, 3) := by decide +kernel
theorem dL_law_928 : decode cL_law 928 = .ok (.aload_n 1, 1) := by decide +kernel
theorem dL_law_929 : decode cL_law 929 = .ok (.aload_n 0, 1) := by decide +kernel
theorem dL_law_930 : decode cL_law 930 = .ok (.iload 4, 2) := by decide +kernel
theorem dL_law_932 : decode cL_law 932 = .ok (.iconst 1, 1) := by decide +kernel
theorem dL_law_933 : decode cL_law 933 = .ok (.iadd, 1) := by decide +kernel
theorem dL_law_934 : decode cL_law 934 = .ok (.iaload, 1) := by decide +kernel
theorem dL_law_935 : decode cL_law 935 = .ok (.aload_n 0, 1) := by decide +kernel
theorem dL_law_936 : decode cL_law 936 = .ok (.iload 4, 2) := by decide +kernel
theorem dL_law_938 : decode cL_law 938 = .ok (.iconst 2, 1) := by decide +kernel
theorem dL_law_939 : decode cL_law 939 = .ok (.iadd, 1) := by decide +kernel
theorem dL_law_940 : decode cL_law 940 = .ok (.iaload, 1) := by decide +kernel
theorem dL_law_941 : decode cL_law 941 = .ok (.aload_n 3, 1) := by decide +kernel
theorem dL_law_942 : decode cL_law 942 = .ok (.invokestatic 124, 3) := by decide +kernel
theorem dL_law_945 : decode cL_law 945 = .ok (.istore 5, 2) := by decide +kernel
theorem dL_law_947 : decode cL_law 947 = .ok (.aload_n 2, 1) := by decide +kernel
theorem dL_law_948 : decode cL_law 948 = .ok (.aload_n 0, 1) := by decide +kernel
theorem dL_law_949 : decode cL_law 949 = .ok (.iload 4, 2) := by decide +kernel
theorem dL_law_951 : decode cL_law 951 = .ok (.iconst 1, 1) := by decide +kernel
theorem dL_law_952 : decode cL_law 952 = .ok (.iadd, 1) := by decide +kernel
theorem dL_law_953 : decode cL_law 953 = .ok (.iaload, 1) := by decide +kernel
theorem dL_law_954 : decode cL_law 954 = .ok (.aload_n 0, 1) := by decide +kernel
theorem dL_law_955 : decode cL_law 955 = .ok (.iload 4, 2) := by decide +kernel
theorem dL_law_957 : decode cL_law 957 = .ok (.iconst 2, 1) := by decide +kernel
theorem dL_law_958 : decode cL_law 958 = .ok (.iadd, 1) := by decide +kernel
theorem dL_law_959 : decode cL_law 959 = .ok (.iaload, 1) := by decide +kernel
theorem dL_law_960 : decode cL_law 960 = .ok (.invokevirtual 126, 3) := by decide +kernel
theorem dL_law_963 : decode cL_law 963 = .ok (.istore 6, 2) := by decide +kernel
theorem dL_law_965 : decode cL_law 965 = .ok (.aload_n 2, 1) := by decide +kernel
theorem dL_law_966 : decode cL_law 966 = .ok (.invokevirtual 84, 3) := by decide +kernel
theorem dL_law_969 : decode cL_law 969 = .ok (.iload 5, 2) := by decide +kernel
theorem dL_law_971 : decode cL_law 971 = .ok (.if_icmp .eq 5, 3) := by decide +kernel
theorem dL_law_974 : decode cL_law 974 = .ok (.iconst 0, 1) := by decide +kernel
theorem dL_law_975 : decode cL_law 975 = .ok (.ireturn, 1) := by decide +kernel
theorem dL_law_976 : decode cL_law 976 = .ok (.iload 5, 2) := by decide +kernel
theorem dL_law_978 : decode cL_law 978 = .ok (.ifCond .ne 15, 3) := by decide +kernel
theorem dL_law_981 : decode cL_law 981 = .ok (.aload_n 3, 1) := by decide +kernel
theorem dL_law_982 : decode cL_law 982 = .ok (.iconst 0, 1) := by decide +kernel
theorem dL_law_983 : decode cL_law 983 = .ok (.laload, 1) := by decide +kernel
theorem dL_law_984 : decode cL_law 984 = .ok (.iload 6, 2) := by decide +kernel
theorem dL_law_986 : decode cL_law 986 = .ok (.i2l, 1) := by decide +kernel
theorem dL_law_987 : decode cL_law 987 = .ok (.lcmp, 1) := by decide +kernel
theorem dL_law_988 : decode cL_law 988 = .ok (.ifCond .eq 5, 3) := by decide +kernel
theorem dL_law_991 : decode cL_law 991 = .ok (.iconst 0, 1) := by decide +kernel
theorem dL_law_992 : decode cL_law 992 = .ok (.ireturn, 1) := by decide +kernel
theorem dL_law_993 : decode cL_law 993 = .ok (.goto 263, 3) := by decide +kernel
theorem dL_law_996 : decode cL_law 996 = .ok (.aload_n 1, 1) := by decide +kernel
theorem dL_law_997 : decode cL_law 997 = .ok (.aload_n 0, 1) := by decide +kernel
theorem dL_law_998 : decode cL_law 998 = .ok (.iload 4, 2) := by decide +kernel
theorem dL_law_1000 : decode cL_law 1000 = .ok (.iconst 1, 1) := by decide +kernel
theorem dL_law_1001 : decode cL_law 1001 = .ok (.iadd, 1) := by decide +kernel
theorem dL_law_1002 : decode cL_law 1002 = .ok (.iaload, 1) := by decide +kernel
theorem dL_law_1003 : decode cL_law 1003 = .ok (.aload_n 0, 1) := by decide +kernel
theorem dL_law_1004 : decode cL_law 1004 = .ok (.iload 4, 2) := by decide +kernel
theorem dL_law_1006 : decode cL_law 1006 = .ok (.iconst 2, 1) := by decide +kernel
theorem dL_law_1007 : decode cL_law 1007 = .ok (.iadd, 1) := by decide +kernel
theorem dL_law_1008 : decode cL_law 1008 = .ok (.iaload, 1) := by decide +kernel
theorem dL_law_1009 : decode cL_law 1009 = .ok (.aload_n 3, 1) := by decide +kernel
theorem dL_law_1010 : decode cL_law 1010 = .ok (.invokestatic 127, 3) := by decide +kernel
theorem dL_law_1013 : decode cL_law 1013 = .ok (.istore 5, 2) := by decide +kernel
theorem dL_law_1015 : decode cL_law 1015 = .ok (.aload_n 2, 1) := by decide +kernel
theorem dL_law_1016 : decode cL_law 1016 = .ok (.aload_n 0, 1) := by decide +kernel
theorem dL_law_1017 : decode cL_law 1017 = .ok (.iload 4, 2) := by decide +kernel
theorem dL_law_1019 : decode cL_law 1019 = .ok (.iconst 1, 1) := by decide +kernel
theorem dL_law_1020 : decode cL_law 1020 = .ok (.iadd, 1) := by decide +kernel
theorem dL_law_1021 : decode cL_law 1021 = .ok (.iaload, 1) := by decide +kernel
theorem dL_law_1022 : decode cL_law 1022 = .ok (.aload_n 0, 1) := by decide +kernel
theorem dL_law_1023 : decode cL_law 1023 = .ok (.iload 4, 2) := by decide +kernel
theorem dL_law_1025 : decode cL_law 1025 = .ok (.iconst 2, 1) := by decide +kernel
theorem dL_law_1026 : decode cL_law 1026 = .ok (.iadd, 1) := by decide +kernel
theorem dL_law_1027 : decode cL_law 1027 = .ok (.iaload, 1) := by decide +kernel
theorem dL_law_1028 : decode cL_law 1028 = .ok (.invokevirtual 129, 3) := by decide +kernel
theorem dL_law_1031 : decode cL_law 1031 = .ok (.istore 6, 2) := by decide +kernel
theorem dL_law_1033 : decode cL_law 1033 = .ok (.aload_n 2, 1) := by decide +kernel
theorem dL_law_1034 : decode cL_law 1034 = .ok (.invokevirtual 84, 3) := by decide +kernel
theorem dL_law_1037 : decode cL_law 1037 = .ok (.iload 5, 2) := by decide +kernel
theorem dL_law_1039 : decode cL_law 1039 = .ok (.if_icmp .eq 5, 3) := by decide +kernel
theorem dL_law_1042 : decode cL_law 1042 = .ok (.iconst 0, 1) := by decide +kernel
theorem dL_law_1043 : decode cL_law 1043 = .ok (.ireturn, 1) := by decide +kernel
theorem dL_law_1044 : decode cL_law 1044 = .ok (.iload 5, 2) := by decide +kernel
theorem dL_law_1046 : decode cL_law 1046 = .ok (.ifCond .ne 15, 3) := by decide +kernel
theorem dL_law_1049 : decode cL_law 1049 = .ok (.aload_n 3, 1) := by decide +kernel
theorem dL_law_1050 : decode cL_law 1050 = .ok (.iconst 0, 1) := by decide +kernel
theorem dL_law_1051 : decode cL_law 1051 = .ok (.laload, 1) := by decide +kernel
theorem dL_law_1052 : decode cL_law 1052 = .ok (.iload 6, 2) := by decide +kernel
theorem dL_law_1054 : decode cL_law 1054 = .ok (.i2l, 1) := by decide +kernel
theorem dL_law_1055 : decode cL_law 1055 = .ok (.lcmp, 1) := by decide +kernel
theorem dL_law_1056 : decode cL_law 1056 = .ok (.ifCond .eq 5, 3) := by decide +kernel
theorem dL_law_1059 : decode cL_law 1059 = .ok (.iconst 0, 1) := by decide +kernel
theorem dL_law_1060 : decode cL_law 1060 = .ok (.ireturn, 1) := by decide +kernel
theorem dL_law_1061 : decode cL_law 1061 = .ok (.goto 195, 3) := by decide +kernel
theorem dL_law_1064 : decode cL_law 1064 = .ok (.aload_n 1, 1) := by decide +kernel
theorem dL_law_1065 : decode cL_law 1065 = .ok (.aload_n 0, 1) := by decide +kernel
theorem dL_law_1066 : decode cL_law 1066 = .ok (.iload 4, 2) := by decide +kernel
theorem dL_law_1068 : decode cL_law 1068 = .ok (.iconst 1, 1) := by decide +kernel
theorem dL_law_1069 : decode cL_law 1069 = .ok (.iadd, 1) := by decide +kernel
theorem dL_law_1070 : decode cL_law 1070 = .ok (.iaload, 1) := by decide +kernel
theorem dL_law_1071 : decode cL_law 1071 = .ok (.aload_n 0, 1) := by decide +kernel
theorem dL_law_1072 : decode cL_law 1072 = .ok (.iload 4, 2) := by decide +kernel
theorem dL_law_1074 : decode cL_law 1074 = .ok (.iconst 2, 1) := by decide +kernel
theorem dL_law_1075 : decode cL_law 1075 = .ok (.iadd, 1) := by decide +kernel
theorem dL_law_1076 : decode cL_law 1076 = .ok (.iaload, 1) := by decide +kernel
theorem dL_law_1077 : decode cL_law 1077 = .ok (.aload_n 3, 1) := by decide +kernel
theorem dL_law_1078 : decode cL_law 1078 = .ok (.invokestatic 130, 3) := by decide +kernel
theorem dL_law_1081 : decode cL_law 1081 = .ok (.istore 5, 2) := by decide +kernel
theorem dL_law_1083 : decode cL_law 1083 = .ok (.aload_n 2, 1) := by decide +kernel
theorem dL_law_1084 : decode cL_law 1084 = .ok (.aload_n 0, 1) := by decide +kernel
theorem dL_law_1085 : decode cL_law 1085 = .ok (.iload 4, 2) := by decide +kernel
theorem dL_law_1087 : decode cL_law 1087 = .ok (.iconst 1, 1) := by decide +kernel
theorem dL_law_1088 : decode cL_law 1088 = .ok (.iadd, 1) := by decide +kernel
theorem dL_law_1089 : decode cL_law 1089 = .ok (.iaload, 1) := by decide +kernel
theorem dL_law_1090 : decode cL_law 1090 = .ok (.aload_n 0, 1) := by decide +kernel
theorem dL_law_1091 : decode cL_law 1091 = .ok (.iload 4, 2) := by decide +kernel
theorem dL_law_1093 : decode cL_law 1093 = .ok (.iconst 2, 1) := by decide +kernel
theorem dL_law_1094 : decode cL_law 1094 = .ok (.iadd, 1) := by decide +kernel
theorem dL_law_1095 : decode cL_law 1095 = .ok (.iaload, 1) := by decide +kernel
theorem dL_law_1096 : decode cL_law 1096 = .ok (.invokevirtual 132, 3) := by decide +kernel
theorem dL_law_1099 : decode cL_law 1099 = .ok (.istore 6, 2) := by decide +kernel
theorem dL_law_1101 : decode cL_law 1101 = .ok (.aload_n 2, 1) := by decide +kernel
theorem dL_law_1102 : decode cL_law 1102 = .ok (.invokevirtual 84, 3) := by decide +kernel
theorem dL_law_1105 : decode cL_law 1105 = .ok (.iload 5, 2) := by decide +kernel
theorem dL_law_1107 : decode cL_law 1107 = .ok (.if_icmp .eq 5, 3) := by decide +kernel
theorem dL_law_1110 : decode cL_law 1110 = .ok (.iconst 0, 1) := by decide +kernel
theorem dL_law_1111 : decode cL_law 1111 = .ok (.ireturn, 1) := by decide +kernel
theorem dL_law_1112 : decode cL_law 1112 = .ok (.iload 5, 2) := by decide +kernel
theorem dL_law_1114 : decode cL_law 1114 = .ok (.ifCond .ne 15, 3) := by decide +kernel
theorem dL_law_1117 : decode cL_law 1117 = .ok (.aload_n 3, 1) := by decide +kernel
theorem dL_law_1118 : decode cL_law 1118 = .ok (.iconst 0, 1) := by decide +kernel
theorem dL_law_1119 : decode cL_law 1119 = .ok (.laload, 1) := by decide +kernel
theorem dL_law_1120 : decode cL_law 1120 = .ok (.iload 6, 2) := by decide +kernel
theorem dL_law_1122 : decode cL_law 1122 = .ok (.i2l, 1) := by decide +kernel
theorem dL_law_1123 : decode cL_law 1123 = .ok (.lcmp, 1) := by decide +kernel
theorem dL_law_1124 : decode cL_law 1124 = .ok (.ifCond .eq 5, 3) := by decide +kernel
theorem dL_law_1127 : decode cL_law 1127 = .ok (.iconst 0, 1) := by decide +kernel
theorem dL_law_1128 : decode cL_law 1128 = .ok (.ireturn, 1) := by decide +kernel
theorem dL_law_1129 : decode cL_law 1129 = .ok (.goto 127, 3) := by decide +kernel
theorem dL_law_1132 : decode cL_law 1132 = .ok (.aload_n 1, 1) := by decide +kernel
theorem dL_law_1133 : decode cL_law 1133 = .ok (.aload_n 0, 1) := by decide +kernel
theorem dL_law_1134 : decode cL_law 1134 = .ok (.iload 4, 2) := by decide +kernel
theorem dL_law_1136 : decode cL_law 1136 = .ok (.iconst 1, 1) := by decide +kernel
theorem dL_law_1137 : decode cL_law 1137 = .ok (.iadd, 1) := by decide +kernel
theorem dL_law_1138 : decode cL_law 1138 = .ok (.iaload, 1) := by decide +kernel
theorem dL_law_1139 : decode cL_law 1139 = .ok (.aload_n 0, 1) := by decide +kernel
theorem dL_law_1140 : decode cL_law 1140 = .ok (.iload 4, 2) := by decide +kernel
theorem dL_law_1142 : decode cL_law 1142 = .ok (.iconst 2, 1) := by decide +kernel
theorem dL_law_1143 : decode cL_law 1143 = .ok (.iadd, 1) := by decide +kernel
theorem dL_law_1144 : decode cL_law 1144 = .ok (.iaload, 1) := by decide +kernel
theorem dL_law_1145 : decode cL_law 1145 = .ok (.aload_n 3, 1) := by decide +kernel
theorem dL_law_1146 : decode cL_law 1146 = .ok (.invokestatic 133, 3) := by decide +kernel
theorem dL_law_1149 : decode cL_law 1149 = .ok (.istore 5, 2) := by decide +kernel
theorem dL_law_1151 : decode cL_law 1151 = .ok (.aload_n 2, 1) := by decide +kernel
theorem dL_law_1152 : decode cL_law 1152 = .ok (.aload_n 0, 1) := by decide +kernel
theorem dL_law_1153 : decode cL_law 1153 = .ok (.iload 4, 2) := by decide +kernel
theorem dL_law_1155 : decode cL_law 1155 = .ok (.iconst 1, 1) := by decide +kernel
theorem dL_law_1156 : decode cL_law 1156 = .ok (.iadd, 1) := by decide +kernel
theorem dL_law_1157 : decode cL_law 1157 = .ok (.iaload, 1) := by decide +kernel
theorem dL_law_1158 : decode cL_law 1158 = .ok (.aload_n 0, 1) := by decide +kernel
theorem dL_law_1159 : decode cL_law 1159 = .ok (.iload 4, 2) := by decide +kernel
theorem dL_law_1161 : decode cL_law 1161 = .ok (.iconst 2, 1) := by decide +kernel
theorem dL_law_1162 : decode cL_law 1162 = .ok (.iadd, 1) := by decide +kernel
theorem dL_law_1163 : decode cL_law 1163 = .ok (.iaload, 1) := by decide +kernel
theorem dL_law_1164 : decode cL_law 1164 = .ok (.invokevirtual 135, 3) := by decide +kernel
theorem dL_law_1167 : decode cL_law 1167 = .ok (.istore 6, 2) := by decide +kernel
theorem dL_law_1169 : decode cL_law 1169 = .ok (.aload_n 2, 1) := by decide +kernel
theorem dL_law_1170 : decode cL_law 1170 = .ok (.invokevirtual 84, 3) := by decide +kernel
theorem dL_law_1173 : decode cL_law 1173 = .ok (.iload 5, 2) := by decide +kernel
theorem dL_law_1175 : decode cL_law 1175 = .ok (.if_icmp .eq 5, 3) := by decide +kernel
theorem dL_law_1178 : decode cL_law 1178 = .ok (.iconst 0, 1) := by decide +kernel
theorem dL_law_1179 : decode cL_law 1179 = .ok (.ireturn, 1) := by decide +kernel
theorem dL_law_1180 : decode cL_law 1180 = .ok (.iload 5, 2) := by decide +kernel
theorem dL_law_1182 : decode cL_law 1182 = .ok (.ifCond .ne 15, 3) := by decide +kernel
theorem dL_law_1185 : decode cL_law 1185 = .ok (.aload_n 3, 1) := by decide +kernel
theorem dL_law_1186 : decode cL_law 1186 = .ok (.iconst 0, 1) := by decide +kernel
theorem dL_law_1187 : decode cL_law 1187 = .ok (.laload, 1) := by decide +kernel
theorem dL_law_1188 : decode cL_law 1188 = .ok (.iload 6, 2) := by decide +kernel
theorem dL_law_1190 : decode cL_law 1190 = .ok (.i2l, 1) := by decide +kernel
theorem dL_law_1191 : decode cL_law 1191 = .ok (.lcmp, 1) := by decide +kernel
theorem dL_law_1192 : decode cL_law 1192 = .ok (.ifCond .eq 5, 3) := by decide +kernel
theorem dL_law_1195 : decode cL_law 1195 = .ok (.iconst 0, 1) := by decide +kernel
theorem dL_law_1196 : decode cL_law 1196 = .ok (.ireturn, 1) := by decide +kernel
theorem dL_law_1197 : decode cL_law 1197 = .ok (.goto 59, 3) := by decide +kernel
theorem dL_law_1200 : decode cL_law 1200 = .ok (.aload_n 1, 1) := by decide +kernel
theorem dL_law_1201 : decode cL_law 1201 = .ok (.aload_n 0, 1) := by decide +kernel
theorem dL_law_1202 : decode cL_law 1202 = .ok (.iload 4, 2) := by decide +kernel
theorem dL_law_1204 : decode cL_law 1204 = .ok (.iconst 1, 1) := by decide +kernel
theorem dL_law_1205 : decode cL_law 1205 = .ok (.iadd, 1) := by decide +kernel
theorem dL_law_1206 : decode cL_law 1206 = .ok (.iaload, 1) := by decide +kernel
theorem dL_law_1207 : decode cL_law 1207 = .ok (.aload_n 3, 1) := by decide +kernel
theorem dL_law_1208 : decode cL_law 1208 = .ok (.invokestatic 136, 3) := by decide +kernel
theorem dL_law_1211 : decode cL_law 1211 = .ok (.istore 5, 2) := by decide +kernel
theorem dL_law_1213 : decode cL_law 1213 = .ok (.aload_n 2, 1) := by decide +kernel
theorem dL_law_1214 : decode cL_law 1214 = .ok (.aload_n 0, 1) := by decide +kernel
theorem dL_law_1215 : decode cL_law 1215 = .ok (.iload 4, 2) := by decide +kernel
theorem dL_law_1217 : decode cL_law 1217 = .ok (.iconst 1, 1) := by decide +kernel
theorem dL_law_1218 : decode cL_law 1218 = .ok (.iadd, 1) := by decide +kernel
theorem dL_law_1219 : decode cL_law 1219 = .ok (.iaload, 1) := by decide +kernel
theorem dL_law_1220 : decode cL_law 1220 = .ok (.invokevirtual 138, 3) := by decide +kernel
theorem dL_law_1223 : decode cL_law 1223 = .ok (.istore 6, 2) := by decide +kernel
theorem dL_law_1225 : decode cL_law 1225 = .ok (.aload_n 2, 1) := by decide +kernel
theorem dL_law_1226 : decode cL_law 1226 = .ok (.invokevirtual 84, 3) := by decide +kernel
theorem dL_law_1229 : decode cL_law 1229 = .ok (.iload 5, 2) := by decide +kernel
theorem dL_law_1231 : decode cL_law 1231 = .ok (.if_icmp .eq 5, 3) := by decide +kernel
theorem dL_law_1234 : decode cL_law 1234 = .ok (.iconst 0, 1) := by decide +kernel
theorem dL_law_1235 : decode cL_law 1235 = .ok (.ireturn, 1) := by decide +kernel
theorem dL_law_1236 : decode cL_law 1236 = .ok (.iload 5, 2) := by decide +kernel
theorem dL_law_1238 : decode cL_law 1238 = .ok (.ifCond .ne 15, 3) := by decide +kernel
theorem dL_law_1241 : decode cL_law 1241 = .ok (.aload_n 3, 1) := by decide +kernel
theorem dL_law_1242 : decode cL_law 1242 = .ok (.iconst 0, 1) := by decide +kernel
theorem dL_law_1243 : decode cL_law 1243 = .ok (.laload, 1) := by decide +kernel
theorem dL_law_1244 : decode cL_law 1244 = .ok (.iload 6, 2) := by decide +kernel
theorem dL_law_1246 : decode cL_law 1246 = .ok (.i2l, 1) := by decide +kernel
theorem dL_law_1247 : decode cL_law 1247 = .ok (.lcmp, 1) := by decide +kernel
theorem dL_law_1248 : decode cL_law 1248 = .ok (.ifCond .eq 5, 3) := by decide +kernel
theorem dL_law_1251 : decode cL_law 1251 = .ok (.iconst 0, 1) := by decide +kernel
theorem dL_law_1252 : decode cL_law 1252 = .ok (.ireturn, 1) := by decide +kernel
theorem dL_law_1253 : decode cL_law 1253 = .ok (.goto 3, 3) := by decide +kernel
theorem dL_law_1256 : decode cL_law 1256 = .ok (.iinc 4 7, 3) := by decide +kernel
theorem dL_law_1259 : decode cL_law 1259 = .ok (.goto (-1236), 3) := by decide +kernel
theorem dL_law_1262 : decode cL_law 1262 = .ok (.iconst 1, 1) := by decide +kernel
theorem dL_law_1263 : decode cL_law 1263 = .ok (.ireturn, 1) := by decide +kernel
theorem dJ7_fill_0 : decode cJ7_fill 0 = .ok (.iconst 0, 1) := by decide +kernel
theorem dJ7_fill_1 : decode cJ7_fill 1 = .ok (.istore_n 2, 1) := by decide +kernel
theorem dJ7_fill_2 : decode cJ7_fill 2 = .ok (.aload_n 0, 1) := by decide +kernel
theorem dJ7_fill_3 : decode cJ7_fill 3 = .ok (.arraylength, 1) := by decide +kernel
theorem dJ7_fill_4 : decode cJ7_fill 4 = .ok (.istore_n 3, 1) := by decide +kernel
theorem dJ7_fill_5 : decode cJ7_fill 5 = .ok (.iload_n 2, 1) := by decide +kernel
theorem dJ7_fill_6 : decode cJ7_fill 6 = .ok (.iload_n 3, 1) := by decide +kernel
theorem dJ7_fill_7 : decode cJ7_fill 7 = .ok (.if_icmp .ge 13, 3) := by decide +kernel
theorem dJ7_fill_10 : decode cJ7_fill 10 = .ok (.aload_n 0, 1) := by decide +kernel
theorem dJ7_fill_11 : decode cJ7_fill 11 = .ok (.iload_n 2, 1) := by decide +kernel
theorem dJ7_fill_12 : decode cJ7_fill 12 = .ok (.iload_n 1, 1) := by decide +kernel
theorem dJ7_fill_13 : decode cJ7_fill 13 = .ok (.iastore, 1) := by decide +kernel
theorem dJ7_fill_14 : decode cJ7_fill 14 = .ok (.iinc 2 1, 3) := by decide +kernel
theorem dJ7_fill_17 : decode cJ7_fill 17 = .ok (.goto (-12), 3) := by decide +kernel
theorem dJ7_fill_20 : decode cJ7_fill 20 = .ok (.return_, 1) := by decide +kernel
end
section
set_option maxHeartbeats 4000000 in
theorem mX4_isBelow {l : Launch} {D : va_G} {a : Nat → Nat} {cA : ClassId} {sz : Nat} {u : g_S} {p0 : Int32} {p1 : Int32} {rv : Int32} (h : fcJ_isBelow p0 p1 = some rv) : gw_Mi D vwCl [(cA, .int)] (cjA a) gX (cjW a cA) l yX4_isBelow wxX4_isBelow rmX4_isBelow sz u [.int p0, .int p1] rv u := by
  refine gw_Mof (Qc := fun z => va_Qi (gw_Pi rv u) (gw_W D vwCl (cjW a cA)) (rg (cjA a) z)) (cc := cX4_isBelow) (maxL := 2) (ret := (some .boolean)) (by decide) rfl ?_
  intro p e s m below meth c B C V
  obtain ⟨hx, hb, hml, hown, hts, hr, hlk⟩ := id B
  have hl := lv_entry ([.int p0, .int p1]) (n := 2) (Nat.le_of_ble_eq_true rfl)
  rw [lg_entry_eq]
  generalize (lg_sl ([.int p0, .int p1]) ++ List.replicate (2 - (lg_sl ([.int p0, .int p1])).length) Slot.unset).toArray = ls at hl ⊢
  have hl : lv_has ls 2 [(0, .int p0), (1, .int p1)] := hl
  unfold fcJ_isBelow at h
  refine lv_iload_n hx hb dX4_isBelow_0 rfl (lv_at hl 0 rfl) ?_
  refine lv_if_lt (tgt := 13) hx hb dX4_isBelow_1 (by decide) (fun c1 => ?_) (fun c1 => ?_)
  · have h := if_t c1 h
    refine lv_iconst (v := (0 : Int32)) hx hb dX4_isBelow_13 (by decide) ?_
    exact gw_reti hx hb hr (nar_z (Or.inl rfl)) hlk V (Option.some.inj h) rfl dX4_isBelow_14
  · have h := if_f c1 h
    refine lv_iload_n hx hb dX4_isBelow_4 rfl (lv_at hl 0 rfl) ?_
    refine lv_iload_n hx hb dX4_isBelow_5 rfl (lv_at hl 1 rfl) ?_
    refine lv_icmp_ge (tgt := 13) hx hb dX4_isBelow_6 (by decide) (fun c2 => ?_) (fun c2 => ?_)
    · have h := if_t c2 h
      refine lv_iconst (v := (0 : Int32)) hx hb dX4_isBelow_13 (by decide) ?_
      exact gw_reti hx hb hr (nar_z (Or.inl rfl)) hlk V (Option.some.inj h) rfl dX4_isBelow_14
    · have h := if_f c2 h
      refine lv_iconst (v := (1 : Int32)) hx hb dX4_isBelow_9 (by decide) ?_
      refine lv_goto (tgt := 14) hx hb dX4_isBelow_10 (by decide) ?_
      exact gw_reti hx hb hr (nar_z (Or.inr rfl)) hlk V (Option.some.inj h) rfl dX4_isBelow_14
set_option maxHeartbeats 4000000 in
theorem mX4_needKnown {l : Launch} (hl9 : l.stackTraces = false) {D : va_G} {a : Nat → Nat} {cA : ClassId} {sz : Nat} {u : g_S} {p0 : Int32} {rv : Nat} (h : fcJ_needKnown p0 = some rv) : gx_Mv D vwCl [(cA, .int)] (cjA a) gX (cjW a cA) l yX4_needKnown wxX4_needKnown rmX4_needKnown 1 6 sz u [.int p0] rv u := by
  refine gx_Mof (Qc := fun z => va_Qv (gx_Pv rv u) (gw_W D vwCl (cjW a cA)) (rg (cjA a) z)) (XC := fun z => vx_X (gx_Px rv u) (gx_W D vwCl (cjW a cA) rv) (rg (cjA a) z)) (cc := cX4_needKnown) (maxL := 1) (ret := none) (by decide) rfl ?_
  intro p e s m below meth c B htab C V
  obtain ⟨hx, hb, hml, hown, hts, hr, hlk⟩ := id B
  have hl := lv_entry ([.int p0]) (n := 1) (Nat.le_of_ble_eq_true rfl)
  rw [lg_entry_eq]
  generalize (lg_sl ([.int p0]) ++ List.replicate (1 - (lg_sl ([.int p0])).length) Slot.unset).toArray = ls at hl ⊢
  have hl : lv_has ls 1 [(0, .int p0)] := hl
  unfold fcJ_needKnown at h
  refine lv_iload_n hx hb dX4_needKnown_0 rfl (lv_at hl 0 rfl) ?_
  refine lv_if_ne (tgt := 14) hx hb dX4_needKnown_1 (by decide) (fun c1 => ?_) (fun c1 => ?_)
  · have h := if_t c1 h
    exact gx_retv hx hb hr hlk V (Option.some.inj h).symm rfl (Nat.le_of_ble_eq_true rfl) (Nat.le_of_ble_eq_true rfl) dX4_needKnown_14
  · have h := if_nn c1 h
    exact gx_thr (names := gEs) hx hb hl9 hown hts (by decide +kernel) (by decide +kernel) kcj_0 kcj_1 tA_1 tB_1 (gX_b C.2.2) tG_1 (gX_s1 C.2.2).choose_spec (gX_u C.2.2) (gX_v C.2.2) V htab hl.1 hml hlk (by rw [← (Option.some.inj h)]; rfl) (by rw [← (Option.some.inj h)]; decide) rfl dX4_needKnown_4 dX4_needKnown_7 dX4_needKnown_8 dX4_needKnown_10 dX4_needKnown_13 (Nat.le_of_ble_eq_true rfl) (Nat.le_of_ble_eq_true rfl) (Nat.le_of_ble_eq_true rfl) (Nat.le_of_ble_eq_true rfl) (Nat.le_of_ble_eq_true rfl) (Nat.le_of_ble_eq_true rfl)
set_option maxHeartbeats 4000000 in
theorem mX4_needRange {l : Launch} (hl9 : l.stackTraces = false) {D : va_G} {a : Nat → Nat} {cA : ClassId} {sz : Nat} {u : g_S} {p0 : Int32} {rv : Nat} (h : fcJ_needRange p0 = some rv) : gx_Mv D vwCl [(cA, .int)] (cjA a) gX (cjW a cA) l yX4_needRange wxX4_needRange rmX4_needRange 1 6 sz u [.int p0] rv u := by
  refine gx_Mof (Qc := fun z => va_Qv (gx_Pv rv u) (gw_W D vwCl (cjW a cA)) (rg (cjA a) z)) (XC := fun z => vx_X (gx_Px rv u) (gx_W D vwCl (cjW a cA) rv) (rg (cjA a) z)) (cc := cX4_needRange) (maxL := 1) (ret := none) (by decide) rfl ?_
  intro p e s m below meth c B htab C V
  obtain ⟨hx, hb, hml, hown, hts, hr, hlk⟩ := id B
  have hl := lv_entry ([.int p0]) (n := 1) (Nat.le_of_ble_eq_true rfl)
  rw [lg_entry_eq]
  generalize (lg_sl ([.int p0]) ++ List.replicate (1 - (lg_sl ([.int p0])).length) Slot.unset).toArray = ls at hl ⊢
  have hl : lv_has ls 1 [(0, .int p0)] := hl
  unfold fcJ_needRange at h
  refine lv_iload_n hx hb dX4_needRange_0 rfl (lv_at hl 0 rfl) ?_
  refine lv_if_ne (tgt := 14) hx hb dX4_needRange_1 (by decide) (fun c1 => ?_) (fun c1 => ?_)
  · have h := if_t c1 h
    exact gx_retv hx hb hr hlk V (Option.some.inj h).symm rfl (Nat.le_of_ble_eq_true rfl) (Nat.le_of_ble_eq_true rfl) dX4_needRange_14
  · have h := if_nn c1 h
    exact gx_thr (names := gEs) hx hb hl9 hown hts (by decide +kernel) (by decide +kernel) kcj_2 kcj_3 tA_2 tB_2 (gX_b C.2.2) tG_2 (gX_s2 C.2.2).choose_spec (gX_u C.2.2) (gX_v C.2.2) V htab hl.1 hml hlk (by rw [← (Option.some.inj h)]; rfl) (by rw [← (Option.some.inj h)]; decide) rfl dX4_needRange_4 dX4_needRange_7 dX4_needRange_8 dX4_needRange_10 dX4_needRange_13 (Nat.le_of_ble_eq_true rfl) (Nat.le_of_ble_eq_true rfl) (Nat.le_of_ble_eq_true rfl) (Nat.le_of_ble_eq_true rfl) (Nat.le_of_ble_eq_true rfl) (Nat.le_of_ble_eq_true rfl)
set_option maxHeartbeats 4000000 in
theorem LX4_rule_56 {p : Program} {l : Launch} {e : Env} {s : State} {m : MethodId} {below : List Frame} {meth : Method} {c : Code} {args : Array Value} {D : va_G} {a : Nat → Nat} {cA : ClassId} (hl9 : l.stackTraces = false) (B : gw_B p s m args meth c cX4_rule 6 none RX4 gT) (htab : ∀ x ∈ c.exceptionTable.toList, False) (C : gw_C D vwCl [(cA, .int)] (cjA a) gX s) {rv : Nat × g_S} : ∀ (x1 : Int32) (x2 : Int32) (x3 : Int32) (x4 : Int32) (x5 : Int32) (y0 : Int32) (u : g_S) (H : Heap) (locs : List Loc) (ls : Array Slot), gw_V D vwCl (cjA a) (cjW a cA) s u H locs → lv_has ls 6 [(0, .ref (a 0)), (1, .int x1), (2, .int x2), (3, .int x3), (4, .int x4), (5, .int x5)] → fcJ_rule_56 u x1 x2 x3 x4 x5 y0 = some rv → W p l e rmX4_rule s m args below meth c H locs 4 24 (gx_Ev D vwCl (cjA a) (cjW a cA) below args s 5 30 rv.1 rv.2) (F0 m 56 ls [.int y0]) := by
  obtain ⟨hx, hb, hml, hown, hts, hr, hlk⟩ := id B
  intro x1 x2 x3 x4 x5 y0 u H locs ls V hl h
  unfold fcJ_rule_56 at h
  obtain ⟨v1, hv1, h⟩ := bi_e h
  refine gx_kv V (vx_runS (As := [.int y0]) (rest := []) ⟨hx, hb, hml, hown, hts⟩ (mX4_needRange hl9 (D := D) (a := a) (cA := cA) (u := u) hv1) (cwS 1 hts gcjX4_45 rfl rfl rfl (by decide +kernel) ⟨Nat.le_of_ble_eq_true rfl, Nat.le_of_ble_eq_true rfl⟩) (gw_preS gX_ok C V [.int y0]) rfl rfl hl.1 rfl (lv_room (Nat.le_of_ble_eq_true rfl)) dX4_rule_56 ⟨Nat.le_of_ble_eq_true rfl, Nat.le_of_ble_eq_true rfl⟩) (fun k0 H locs ce qe V hat => ?_) (fun k0 H locs V => ?_)
  · have h := if_f k0 h
    exact gx_out htab hlk V hat k0 (congrArg Prod.fst (Option.some.inj h)) (congrArg Prod.snd (Option.some.inj h)) (Nat.le_of_ble_eq_true rfl) (Nat.le_of_ble_eq_true rfl)
  have h := if_t k0 h
  refine lv_aload_n hx hb dX4_rule_59 rfl (lv_at hl 0 rfl) ?_
  refine va_get (C := RX4) (T := TX4) (N := 4) (ci := 4) hx hb hts igX4 hown C.1 V.1 0 rfl rfl 0 (by decide) (hts _ kcj_4) (fun _ h => h) rfl dX4_rule_60 ?_
  refine va_get (C := RX3) (T := TX3) (N := 5) (ci := 3) hx hb hts igX3 hown C.1 V.1 1 rfl rfl 0 (by decide) (hts _ kcj_5) (fun _ h => h) rfl dX4_rule_63 ?_
  refine lv_iload_n hx hb dX4_rule_66 rfl (lv_at hl 1 rfl) ?_
  refine lv_iload_n hx hb dX4_rule_67 rfl (lv_at hl 2 rfl) ?_
  obtain ⟨i2, h⟩ := ck_e h
  obtain ⟨u3, eu3, h⟩ := gl_e h
  refine gw_iast (u' := u3) hx hb (cjW_as a cA) C V 5 0 rfl rfl i2 (cjS_0 _ _ _ _ _ _ eu3) dX4_rule_68 (fun H locs V => ?_)
  refine lv_aload_n hx hb dX4_rule_69 rfl (lv_at hl 0 rfl) ?_
  refine va_get (C := RX4) (T := TX4) (N := 4) (ci := 4) hx hb hts igX4 hown C.1 V.1 0 rfl rfl 0 (by decide) (hts _ kcj_4) (fun _ h => h) rfl dX4_rule_70 ?_
  refine va_get (C := RX3) (T := TX3) (N := 5) (ci := 3) hx hb hts igX3 hown C.1 V.1 1 rfl rfl 1 (by decide) (hts _ kcj_6) (fun _ h => h) rfl dX4_rule_73 ?_
  refine lv_iload_n hx hb dX4_rule_76 rfl (lv_at hl 1 rfl) ?_
  refine lv_iload_n hx hb dX4_rule_77 rfl (lv_at hl 3 rfl) ?_
  obtain ⟨i4, h⟩ := ck_e h
  obtain ⟨u5, eu5, h⟩ := gl_e h
  refine gw_iast (u' := u5) hx hb (cjW_as a cA) C V 6 0 rfl rfl i4 (cjS_1 _ _ _ _ _ _ eu5) dX4_rule_78 (fun H locs V => ?_)
  refine lv_aload_n hx hb dX4_rule_79 rfl (lv_at hl 0 rfl) ?_
  refine va_get (C := RX4) (T := TX4) (N := 4) (ci := 4) hx hb hts igX4 hown C.1 V.1 0 rfl rfl 0 (by decide) (hts _ kcj_4) (fun _ h => h) rfl dX4_rule_80 ?_
  refine va_get (C := RX3) (T := TX3) (N := 5) (ci := 3) hx hb hts igX3 hown C.1 V.1 1 rfl rfl 2 (by decide) (hts _ kcj_7) (fun _ h => h) rfl dX4_rule_83 ?_
  refine lv_iload_n hx hb dX4_rule_86 rfl (lv_at hl 1 rfl) ?_
  refine lv_iload hx hb dX4_rule_87 (lv_at hl 4 rfl) ?_
  obtain ⟨i6, h⟩ := ck_e h
  obtain ⟨u7, eu7, h⟩ := gl_e h
  refine gw_iast (u' := u7) hx hb (cjW_as a cA) C V 7 0 rfl rfl i6 (cjS_2 _ _ _ _ _ _ eu7) dX4_rule_89 (fun H locs V => ?_)
  refine lv_aload_n hx hb dX4_rule_90 rfl (lv_at hl 0 rfl) ?_
  refine va_get (C := RX4) (T := TX4) (N := 4) (ci := 4) hx hb hts igX4 hown C.1 V.1 0 rfl rfl 0 (by decide) (hts _ kcj_4) (fun _ h => h) rfl dX4_rule_91 ?_
  refine va_get (C := RX3) (T := TX3) (N := 5) (ci := 3) hx hb hts igX3 hown C.1 V.1 1 rfl rfl 3 (by decide) (hts _ kcj_8) (fun _ h => h) rfl dX4_rule_94 ?_
  refine lv_iload_n hx hb dX4_rule_97 rfl (lv_at hl 1 rfl) ?_
  refine lv_iload hx hb dX4_rule_98 (lv_at hl 5 rfl) ?_
  obtain ⟨i8, h⟩ := ck_e h
  obtain ⟨u9, eu9, h⟩ := gl_e h
  refine gw_iast (u' := u9) hx hb (cjW_as a cA) C V 8 0 rfl rfl i8 (cjS_3 _ _ _ _ _ _ eu9) dX4_rule_100 (fun H locs V => ?_)
  exact gx_retv hx hb hr hlk V (congrArg Prod.fst (Option.some.inj h)).symm (congrArg Prod.snd (Option.some.inj h)) (Nat.le_of_ble_eq_true rfl) (Nat.le_of_ble_eq_true rfl) dX4_rule_101
set_option maxHeartbeats 4000000 in
theorem mX4_rule {l : Launch} (hl9 : l.stackTraces = false) {D : va_G} {a : Nat → Nat} {cA : ClassId} {sz : Nat} {u : g_S} {p1 : Int32} {p2 : Int32} {p3 : Int32} {p4 : Int32} {p5 : Int32} {rv : Nat × g_S} (h : fcJ_rule u p1 p2 p3 p4 p5 = some rv) : gx_Mv D vwCl [(cA, .int)] (cjA a) gX (cjW a cA) l yX4_rule wxX4_rule rmX4_rule 5 30 sz u [.ref (a 0), .int p1, .int p2, .int p3, .int p4, .int p5] rv.1 rv.2 := by
  refine gx_Mof (Qc := fun z => va_Qv (gx_Pv rv.1 rv.2) (gw_W D vwCl (cjW a cA)) (rg (cjA a) z)) (XC := fun z => vx_X (gx_Px rv.1 rv.2) (gx_W D vwCl (cjW a cA) rv.1) (rg (cjA a) z)) (cc := cX4_rule) (maxL := 6) (ret := none) (by decide) rfl ?_
  intro p e s m below meth c B htab C V
  obtain ⟨hx, hb, hml, hown, hts, hr, hlk⟩ := id B
  have hl := lv_entry ([.ref (a 0), .int p1, .int p2, .int p3, .int p4, .int p5]) (n := 6) (Nat.le_of_ble_eq_true rfl)
  rw [lg_entry_eq]
  generalize (lg_sl ([.ref (a 0), .int p1, .int p2, .int p3, .int p4, .int p5]) ++ List.replicate (6 - (lg_sl ([.ref (a 0), .int p1, .int p2, .int p3, .int p4, .int p5])).length) Slot.unset).toArray = ls at hl ⊢
  have hl : lv_has ls 6 [(0, .ref (a 0)), (1, .int p1), (2, .int p2), (3, .int p3), (4, .int p4), (5, .int p5)] := hl
  unfold fcJ_rule at h
  refine lv_iload_n hx hb dX4_rule_0 rfl (lv_at hl 1 rfl) ?_
  refine lv_bipush (v := (8 : Int32)) hx hb dX4_rule_1 (by decide) ?_
  obtain ⟨v1, hv1, h⟩ := bi_e h
  refine gw_ki V (va_runS (As := [.int p1, .int (8 : Int32)]) (rest := []) ⟨hx, hb, hml, hown, hts⟩ (mX4_isBelow (D := D) (a := a) (cA := cA) (u := u) hv1) (cwS 2 hts gcjX4_37 rfl rfl rfl (by decide +kernel) ⟨Nat.le_of_ble_eq_true rfl, Nat.le_of_ble_eq_true rfl⟩) (gw_preS gX_ok C V [.int p1, .int (8 : Int32)]) rfl rfl hl.1 rfl (lv_room (Nat.le_of_ble_eq_true rfl)) dX4_rule_3 ⟨Nat.le_of_ble_eq_true rfl, Nat.le_of_ble_eq_true rfl⟩) (fun H locs V => ?_)
  obtain ⟨v2, hv2, h⟩ := bi_e h
  refine gx_kv V (vx_runS (As := [.int v1]) (rest := []) ⟨hx, hb, hml, hown, hts⟩ (mX4_needKnown hl9 (D := D) (a := a) (cA := cA) (u := u) hv2) (cwS 1 hts gcjX4_41 rfl rfl rfl (by decide +kernel) ⟨Nat.le_of_ble_eq_true rfl, Nat.le_of_ble_eq_true rfl⟩) (gw_preS gX_ok C V [.int v1]) rfl rfl hl.1 rfl (lv_room (Nat.le_of_ble_eq_true rfl)) dX4_rule_6 ⟨Nat.le_of_ble_eq_true rfl, Nat.le_of_ble_eq_true rfl⟩) (fun k0 H locs ce qe V hat => ?_) (fun k0 H locs V => ?_)
  · have h := if_f k0 h
    exact gx_out htab hlk V hat k0 (congrArg Prod.fst (Option.some.inj h)) (congrArg Prod.snd (Option.some.inj h)) (Nat.le_of_ble_eq_true rfl) (Nat.le_of_ble_eq_true rfl)
  have h := if_t k0 h
  refine lv_iload_n hx hb dX4_rule_9 rfl (lv_at hl 2 rfl) ?_
  refine lv_sipush (v := (20001 : Int32)) hx hb dX4_rule_10 (by decide) ?_
  obtain ⟨v3, hv3, h⟩ := bi_e h
  refine gw_ki V (va_runS (As := [.int p2, .int (20001 : Int32)]) (rest := []) ⟨hx, hb, hml, hown, hts⟩ (mX4_isBelow (D := D) (a := a) (cA := cA) (u := u) hv3) (cwS 2 hts gcjX4_37 rfl rfl rfl (by decide +kernel) ⟨Nat.le_of_ble_eq_true rfl, Nat.le_of_ble_eq_true rfl⟩) (gw_preS gX_ok C V [.int p2, .int (20001 : Int32)]) rfl rfl hl.1 rfl (lv_room (Nat.le_of_ble_eq_true rfl)) dX4_rule_13 ⟨Nat.le_of_ble_eq_true rfl, Nat.le_of_ble_eq_true rfl⟩) (fun H locs V => ?_)
  obtain ⟨v4, hv4, h⟩ := bi_e h
  refine gx_kv V (vx_runS (As := [.int v3]) (rest := []) ⟨hx, hb, hml, hown, hts⟩ (mX4_needRange hl9 (D := D) (a := a) (cA := cA) (u := u) hv4) (cwS 1 hts gcjX4_45 rfl rfl rfl (by decide +kernel) ⟨Nat.le_of_ble_eq_true rfl, Nat.le_of_ble_eq_true rfl⟩) (gw_preS gX_ok C V [.int v3]) rfl rfl hl.1 rfl (lv_room (Nat.le_of_ble_eq_true rfl)) dX4_rule_16 ⟨Nat.le_of_ble_eq_true rfl, Nat.le_of_ble_eq_true rfl⟩) (fun k0 H locs ce qe V hat => ?_) (fun k0 H locs V => ?_)
  · have h := if_f k0 h
    exact gx_out htab hlk V hat k0 (congrArg Prod.fst (Option.some.inj h)) (congrArg Prod.snd (Option.some.inj h)) (Nat.le_of_ble_eq_true rfl) (Nat.le_of_ble_eq_true rfl)
  have h := if_t k0 h
  refine lv_iload_n hx hb dX4_rule_19 rfl (lv_at hl 3 rfl) ?_
  refine lv_ldc (v := (100001 : Int32)) hx hb hown (hts _ kcj_9) dX4_rule_20 ?_
  obtain ⟨v5, hv5, h⟩ := bi_e h
  refine gw_ki V (va_runS (As := [.int p3, .int (100001 : Int32)]) (rest := []) ⟨hx, hb, hml, hown, hts⟩ (mX4_isBelow (D := D) (a := a) (cA := cA) (u := u) hv5) (cwS 2 hts gcjX4_37 rfl rfl rfl (by decide +kernel) ⟨Nat.le_of_ble_eq_true rfl, Nat.le_of_ble_eq_true rfl⟩) (gw_preS gX_ok C V [.int p3, .int (100001 : Int32)]) rfl rfl hl.1 rfl (lv_room (Nat.le_of_ble_eq_true rfl)) dX4_rule_22 ⟨Nat.le_of_ble_eq_true rfl, Nat.le_of_ble_eq_true rfl⟩) (fun H locs V => ?_)
  obtain ⟨v6, hv6, h⟩ := bi_e h
  refine gx_kv V (vx_runS (As := [.int v5]) (rest := []) ⟨hx, hb, hml, hown, hts⟩ (mX4_needRange hl9 (D := D) (a := a) (cA := cA) (u := u) hv6) (cwS 1 hts gcjX4_45 rfl rfl rfl (by decide +kernel) ⟨Nat.le_of_ble_eq_true rfl, Nat.le_of_ble_eq_true rfl⟩) (gw_preS gX_ok C V [.int v5]) rfl rfl hl.1 rfl (lv_room (Nat.le_of_ble_eq_true rfl)) dX4_rule_25 ⟨Nat.le_of_ble_eq_true rfl, Nat.le_of_ble_eq_true rfl⟩) (fun k0 H locs ce qe V hat => ?_) (fun k0 H locs V => ?_)
  · have h := if_f k0 h
    exact gx_out htab hlk V hat k0 (congrArg Prod.fst (Option.some.inj h)) (congrArg Prod.snd (Option.some.inj h)) (Nat.le_of_ble_eq_true rfl) (Nat.le_of_ble_eq_true rfl)
  have h := if_t k0 h
  refine lv_iload hx hb dX4_rule_28 (lv_at hl 4 rfl) ?_
  refine lv_bipush (v := (101 : Int32)) hx hb dX4_rule_30 (by decide) ?_
  obtain ⟨v7, hv7, h⟩ := bi_e h
  refine gw_ki V (va_runS (As := [.int p4, .int (101 : Int32)]) (rest := []) ⟨hx, hb, hml, hown, hts⟩ (mX4_isBelow (D := D) (a := a) (cA := cA) (u := u) hv7) (cwS 2 hts gcjX4_37 rfl rfl rfl (by decide +kernel) ⟨Nat.le_of_ble_eq_true rfl, Nat.le_of_ble_eq_true rfl⟩) (gw_preS gX_ok C V [.int p4, .int (101 : Int32)]) rfl rfl hl.1 rfl (lv_room (Nat.le_of_ble_eq_true rfl)) dX4_rule_32 ⟨Nat.le_of_ble_eq_true rfl, Nat.le_of_ble_eq_true rfl⟩) (fun H locs V => ?_)
  obtain ⟨v8, hv8, h⟩ := bi_e h
  refine gx_kv V (vx_runS (As := [.int v7]) (rest := []) ⟨hx, hb, hml, hown, hts⟩ (mX4_needRange hl9 (D := D) (a := a) (cA := cA) (u := u) hv8) (cwS 1 hts gcjX4_45 rfl rfl rfl (by decide +kernel) ⟨Nat.le_of_ble_eq_true rfl, Nat.le_of_ble_eq_true rfl⟩) (gw_preS gX_ok C V [.int v7]) rfl rfl hl.1 rfl (lv_room (Nat.le_of_ble_eq_true rfl)) dX4_rule_35 ⟨Nat.le_of_ble_eq_true rfl, Nat.le_of_ble_eq_true rfl⟩) (fun k0 H locs ce qe V hat => ?_) (fun k0 H locs V => ?_)
  · have h := if_f k0 h
    exact gx_out htab hlk V hat k0 (congrArg Prod.fst (Option.some.inj h)) (congrArg Prod.snd (Option.some.inj h)) (Nat.le_of_ble_eq_true rfl) (Nat.le_of_ble_eq_true rfl)
  have h := if_t k0 h
  refine lv_iload hx hb dX4_rule_38 (lv_at hl 5 rfl) ?_
  refine lv_iconst (v := (1 : Int32)) hx hb dX4_rule_40 (by decide) ?_
  refine lv_icmp_lt (tgt := 55) hx hb dX4_rule_41 (by decide) (fun c9 => ?_) (fun c9 => ?_)
  · have h := if_t c9 h
    refine lv_iconst (v := (0 : Int32)) hx hb dX4_rule_55 (by decide) ?_
    exact LX4_rule_56 hl9 B htab C p1 p2 p3 p4 p5 (0 : Int32) u _ _ _ V (lv_sub hl [0, 1, 2, 3, 4, 5] rfl) h
  · have h := if_f c9 h
    refine lv_iload hx hb dX4_rule_44 (lv_at hl 5 rfl) ?_
    refine lv_bipush (v := (100 : Int32)) hx hb dX4_rule_46 (by decide) ?_
    refine lv_icmp_gt (tgt := 55) hx hb dX4_rule_48 (by decide) (fun c10 => ?_) (fun c10 => ?_)
    · have h := if_t c10 h
      refine lv_iconst (v := (0 : Int32)) hx hb dX4_rule_55 (by decide) ?_
      exact LX4_rule_56 hl9 B htab C p1 p2 p3 p4 p5 (0 : Int32) u _ _ _ V (lv_sub hl [0, 1, 2, 3, 4, 5] rfl) h
    · have h := if_f c10 h
      refine lv_iconst (v := (1 : Int32)) hx hb dX4_rule_51 (by decide) ?_
      refine lv_goto (tgt := 56) hx hb dX4_rule_52 (by decide) ?_
      exact LX4_rule_56 hl9 B htab C p1 p2 p3 p4 p5 (1 : Int32) u _ _ _ V (lv_sub hl [0, 1, 2, 3, 4, 5] rfl) h
set_option maxHeartbeats 4000000 in
theorem LX4_weight_23 {p : Program} {l : Launch} {e : Env} {s : State} {m : MethodId} {below : List Frame} {meth : Method} {c : Code} {args : Array Value} {D : va_G} {a : Nat → Nat} {cA : ClassId} (hl9 : l.stackTraces = false) (B : gw_B p s m args meth c cX4_weight 4 none RX4 gT) (htab : ∀ x ∈ c.exceptionTable.toList, False) (C : gw_C D vwCl [(cA, .int)] (cjA a) gX s) {rv : Nat × g_S} : ∀ (x1 : Int32) (x2 : Int32) (x3 : Int32) (y0 : Int32) (u : g_S) (H : Heap) (locs : List Loc) (ls : Array Slot), gw_V D vwCl (cjA a) (cjW a cA) s u H locs → lv_has ls 4 [(0, .ref (a 0)), (1, .int x1), (2, .int x2), (3, .int x3)] → fcJ_weight_23 u x1 x2 x3 y0 = some rv → W p l e rmX4_weight s m args below meth c H locs 0 0 (gx_Ev D vwCl (cjA a) (cjW a cA) below args s 2 12 rv.1 rv.2) (F0 m 23 ls [.int y0]) := by
  obtain ⟨hx, hb, hml, hown, hts, hr, hlk⟩ := id B
  intro x1 x2 x3 y0 u H locs ls V hl h
  unfold fcJ_weight_23 at h
  obtain ⟨v1, hv1, h⟩ := bi_e h
  refine gx_kv V (vx_runS (As := [.int y0]) (rest := []) ⟨hx, hb, hml, hown, hts⟩ (mX4_needKnown hl9 (D := D) (a := a) (cA := cA) (u := u) hv1) (cwS 1 hts gcjX4_41 rfl rfl rfl (by decide +kernel) ⟨Nat.le_of_ble_eq_true rfl, Nat.le_of_ble_eq_true rfl⟩) (gw_preS gX_ok C V [.int y0]) rfl rfl hl.1 rfl (lv_room (Nat.le_of_ble_eq_true rfl)) dX4_weight_23 ⟨Nat.le_of_ble_eq_true rfl, Nat.le_of_ble_eq_true rfl⟩) (fun k0 H locs ce qe V hat => ?_) (fun k0 H locs V => ?_)
  · have h := if_f k0 h
    exact gx_out htab hlk V hat k0 (congrArg Prod.fst (Option.some.inj h)) (congrArg Prod.snd (Option.some.inj h)) (Nat.le_of_ble_eq_true rfl) (Nat.le_of_ble_eq_true rfl)
  have h := if_t k0 h
  refine lv_iload_n hx hb dX4_weight_26 rfl (lv_at hl 3 rfl) ?_
  refine lv_bipush (v := (101 : Int32)) hx hb dX4_weight_27 (by decide) ?_
  obtain ⟨v2, hv2, h⟩ := bi_e h
  refine gw_ki V (va_runS (As := [.int x3, .int (101 : Int32)]) (rest := []) ⟨hx, hb, hml, hown, hts⟩ (mX4_isBelow (D := D) (a := a) (cA := cA) (u := u) hv2) (cwS 2 hts gcjX4_37 rfl rfl rfl (by decide +kernel) ⟨Nat.le_of_ble_eq_true rfl, Nat.le_of_ble_eq_true rfl⟩) (gw_preS gX_ok C V [.int x3, .int (101 : Int32)]) rfl rfl hl.1 rfl (lv_room (Nat.le_of_ble_eq_true rfl)) dX4_weight_29 ⟨Nat.le_of_ble_eq_true rfl, Nat.le_of_ble_eq_true rfl⟩) (fun H locs V => ?_)
  obtain ⟨v3, hv3, h⟩ := bi_e h
  refine gx_kv V (vx_runS (As := [.int v2]) (rest := []) ⟨hx, hb, hml, hown, hts⟩ (mX4_needRange hl9 (D := D) (a := a) (cA := cA) (u := u) hv3) (cwS 1 hts gcjX4_45 rfl rfl rfl (by decide +kernel) ⟨Nat.le_of_ble_eq_true rfl, Nat.le_of_ble_eq_true rfl⟩) (gw_preS gX_ok C V [.int v2]) rfl rfl hl.1 rfl (lv_room (Nat.le_of_ble_eq_true rfl)) dX4_weight_32 ⟨Nat.le_of_ble_eq_true rfl, Nat.le_of_ble_eq_true rfl⟩) (fun k0 H locs ce qe V hat => ?_) (fun k0 H locs V => ?_)
  · have h := if_f k0 h
    exact gx_out htab hlk V hat k0 (congrArg Prod.fst (Option.some.inj h)) (congrArg Prod.snd (Option.some.inj h)) (Nat.le_of_ble_eq_true rfl) (Nat.le_of_ble_eq_true rfl)
  have h := if_t k0 h
  refine lv_aload_n hx hb dX4_weight_35 rfl (lv_at hl 0 rfl) ?_
  refine va_get (C := RX4) (T := TX4) (N := 4) (ci := 4) hx hb hts igX4 hown C.1 V.1 0 rfl rfl 0 (by decide) (hts _ kcj_4) (fun _ h => h) rfl dX4_weight_36 ?_
  refine va_get (C := RX3) (T := TX3) (N := 5) (ci := 3) hx hb hts igX3 hown C.1 V.1 1 rfl rfl 4 (by decide) (hts _ kcj_10) (fun _ h => h) rfl dX4_weight_39 ?_
  refine lv_iload_n hx hb dX4_weight_42 rfl (lv_at hl 1 rfl) ?_
  refine lv_bipush (v := (32 : Int32)) hx hb dX4_weight_43 (by decide) ?_
  refine lv_imul hx hb dX4_weight_45 ?_
  refine lv_iload_n hx hb dX4_weight_46 rfl (lv_at hl 2 rfl) ?_
  refine lv_iadd hx hb dX4_weight_47 ?_
  refine lv_iload_n hx hb dX4_weight_48 rfl (lv_at hl 3 rfl) ?_
  obtain ⟨i4, h⟩ := ck_e h
  obtain ⟨u5, eu5, h⟩ := gl_e h
  refine gw_iast (u' := u5) hx hb (cjW_as a cA) C V 9 0 rfl rfl i4 (cjS_4 _ _ _ _ _ _ eu5) dX4_weight_49 (fun H locs V => ?_)
  exact gx_retv hx hb hr hlk V (congrArg Prod.fst (Option.some.inj h)).symm (congrArg Prod.snd (Option.some.inj h)) (Nat.le_of_ble_eq_true rfl) (Nat.le_of_ble_eq_true rfl) dX4_weight_50
set_option maxHeartbeats 4000000 in
theorem mX4_weight {l : Launch} (hl9 : l.stackTraces = false) {D : va_G} {a : Nat → Nat} {cA : ClassId} {sz : Nat} {u : g_S} {p1 : Int32} {p2 : Int32} {p3 : Int32} {rv : Nat × g_S} (h : fcJ_weight u p1 p2 p3 = some rv) : gx_Mv D vwCl [(cA, .int)] (cjA a) gX (cjW a cA) l yX4_weight wxX4_weight rmX4_weight 2 12 sz u [.ref (a 0), .int p1, .int p2, .int p3] rv.1 rv.2 := by
  refine gx_Mof (Qc := fun z => va_Qv (gx_Pv rv.1 rv.2) (gw_W D vwCl (cjW a cA)) (rg (cjA a) z)) (XC := fun z => vx_X (gx_Px rv.1 rv.2) (gx_W D vwCl (cjW a cA) rv.1) (rg (cjA a) z)) (cc := cX4_weight) (maxL := 4) (ret := none) (by decide) rfl ?_
  intro p e s m below meth c B htab C V
  obtain ⟨hx, hb, hml, hown, hts, hr, hlk⟩ := id B
  have hl := lv_entry ([.ref (a 0), .int p1, .int p2, .int p3]) (n := 4) (Nat.le_of_ble_eq_true rfl)
  rw [lg_entry_eq]
  generalize (lg_sl ([.ref (a 0), .int p1, .int p2, .int p3]) ++ List.replicate (4 - (lg_sl ([.ref (a 0), .int p1, .int p2, .int p3])).length) Slot.unset).toArray = ls at hl ⊢
  have hl : lv_has ls 4 [(0, .ref (a 0)), (1, .int p1), (2, .int p2), (3, .int p3)] := hl
  unfold fcJ_weight at h
  refine lv_iload_n hx hb dX4_weight_0 rfl (lv_at hl 1 rfl) ?_
  refine lv_bipush (v := (8 : Int32)) hx hb dX4_weight_1 (by decide) ?_
  obtain ⟨v1, hv1, h⟩ := bi_e h
  refine gw_ki V (va_runS (As := [.int p1, .int (8 : Int32)]) (rest := []) ⟨hx, hb, hml, hown, hts⟩ (mX4_isBelow (D := D) (a := a) (cA := cA) (u := u) hv1) (cwS 2 hts gcjX4_37 rfl rfl rfl (by decide +kernel) ⟨Nat.le_of_ble_eq_true rfl, Nat.le_of_ble_eq_true rfl⟩) (gw_preS gX_ok C V [.int p1, .int (8 : Int32)]) rfl rfl hl.1 rfl (lv_room (Nat.le_of_ble_eq_true rfl)) dX4_weight_3 ⟨Nat.le_of_ble_eq_true rfl, Nat.le_of_ble_eq_true rfl⟩) (fun H locs V => ?_)
  refine lv_if_eq (tgt := 22) hx hb dX4_weight_6 (by decide) (fun c2 => ?_) (fun c2 => ?_)
  · have h := if_t c2 h
    refine lv_iconst (v := (0 : Int32)) hx hb dX4_weight_22 (by decide) ?_
    exact LX4_weight_23 hl9 B htab C p1 p2 p3 (0 : Int32) u _ _ _ V (lv_sub hl [0, 1, 2, 3] rfl) h
  · have h := if_f c2 h
    refine lv_iload_n hx hb dX4_weight_9 rfl (lv_at hl 2 rfl) ?_
    refine lv_bipush (v := (32 : Int32)) hx hb dX4_weight_10 (by decide) ?_
    obtain ⟨v3, hv3, h⟩ := bi_e h
    refine gw_ki V (va_runS (As := [.int p2, .int (32 : Int32)]) (rest := []) ⟨hx, hb, hml, hown, hts⟩ (mX4_isBelow (D := D) (a := a) (cA := cA) (u := u) hv3) (cwS 2 hts gcjX4_37 rfl rfl rfl (by decide +kernel) ⟨Nat.le_of_ble_eq_true rfl, Nat.le_of_ble_eq_true rfl⟩) (gw_preS gX_ok C V [.int p2, .int (32 : Int32)]) rfl rfl hl.1 rfl (lv_room (Nat.le_of_ble_eq_true rfl)) dX4_weight_12 ⟨Nat.le_of_ble_eq_true rfl, Nat.le_of_ble_eq_true rfl⟩) (fun H locs V => ?_)
    refine lv_if_eq (tgt := 22) hx hb dX4_weight_15 (by decide) (fun c4 => ?_) (fun c4 => ?_)
    · have h := if_t c4 h
      refine lv_iconst (v := (0 : Int32)) hx hb dX4_weight_22 (by decide) ?_
      exact LX4_weight_23 hl9 B htab C p1 p2 p3 (0 : Int32) u _ _ _ V (lv_sub hl [0, 1, 2, 3] rfl) h
    · have h := if_f c4 h
      refine lv_iconst (v := (1 : Int32)) hx hb dX4_weight_18 (by decide) ?_
      refine lv_goto (tgt := 23) hx hb dX4_weight_19 (by decide) ?_
      exact LX4_weight_23 hl9 B htab C p1 p2 p3 (1 : Int32) u _ _ _ V (lv_sub hl [0, 1, 2, 3] rfl) h
set_option maxHeartbeats 4000000 in
theorem mX4_needRoom {l : Launch} (hl9 : l.stackTraces = false) {D : va_G} {a : Nat → Nat} {cA : ClassId} {sz : Nat} {u : g_S} {p0 : Int32} {rv : Nat} (h : fcJ_needRoom p0 = some rv) : gx_Mv D vwCl [(cA, .int)] (cjA a) gX (cjW a cA) l yX4_needRoom wxX4_needRoom rmX4_needRoom 1 6 sz u [.int p0] rv u := by
  refine gx_Mof (Qc := fun z => va_Qv (gx_Pv rv u) (gw_W D vwCl (cjW a cA)) (rg (cjA a) z)) (XC := fun z => vx_X (gx_Px rv u) (gx_W D vwCl (cjW a cA) rv) (rg (cjA a) z)) (cc := cX4_needRoom) (maxL := 1) (ret := none) (by decide) rfl ?_
  intro p e s m below meth c B htab C V
  obtain ⟨hx, hb, hml, hown, hts, hr, hlk⟩ := id B
  have hl := lv_entry ([.int p0]) (n := 1) (Nat.le_of_ble_eq_true rfl)
  rw [lg_entry_eq]
  generalize (lg_sl ([.int p0]) ++ List.replicate (1 - (lg_sl ([.int p0])).length) Slot.unset).toArray = ls at hl ⊢
  have hl : lv_has ls 1 [(0, .int p0)] := hl
  unfold fcJ_needRoom at h
  refine lv_iload_n hx hb dX4_needRoom_0 rfl (lv_at hl 0 rfl) ?_
  refine lv_if_ne (tgt := 14) hx hb dX4_needRoom_1 (by decide) (fun c1 => ?_) (fun c1 => ?_)
  · have h := if_t c1 h
    exact gx_retv hx hb hr hlk V (Option.some.inj h).symm rfl (Nat.le_of_ble_eq_true rfl) (Nat.le_of_ble_eq_true rfl) dX4_needRoom_14
  · have h := if_nn c1 h
    exact gx_thr (names := gEs) hx hb hl9 hown hts (by decide +kernel) (by decide +kernel) kcj_11 kcj_12 tA_4 tB_4 (gX_b C.2.2) tG_4 (gX_s4 C.2.2).choose_spec (gX_u C.2.2) (gX_v C.2.2) V htab hl.1 hml hlk (by rw [← (Option.some.inj h)]; rfl) (by rw [← (Option.some.inj h)]; decide) rfl dX4_needRoom_4 dX4_needRoom_7 dX4_needRoom_8 dX4_needRoom_10 dX4_needRoom_13 (Nat.le_of_ble_eq_true rfl) (Nat.le_of_ble_eq_true rfl) (Nat.le_of_ble_eq_true rfl) (Nat.le_of_ble_eq_true rfl) (Nat.le_of_ble_eq_true rfl) (Nat.le_of_ble_eq_true rfl)
set_option maxHeartbeats 4000000 in
theorem mX2_append {l : Launch} {D : va_G} {a : Nat → Nat} {cA : ClassId} {sz : Nat} {u : g_S} {p1 : Int32} {p2 : Int32} {rv : Int32 × g_S} (h : fcR_append u p1 p2 = some rv) : gw_Mi D vwCl [(cA, .int)] (cjA a) gX (cjW a cA) l yX2_append wxX2_append rmX2_append sz u [.ref (a 2), .int p1, .int p2] rv.1 rv.2 := by
  refine gw_Mof (Qc := fun z => va_Qi (gw_Pi rv.1 rv.2) (gw_W D vwCl (cjW a cA)) (rg (cjA a) z)) (cc := cX2_append) (maxL := 3) (ret := (some .int)) (by decide) rfl ?_
  intro p e s m below meth c B C V
  obtain ⟨hx, hb, hml, hown, hts, hr, hlk⟩ := id B
  have hl := lv_entry ([.ref (a 2), .int p1, .int p2]) (n := 3) (Nat.le_of_ble_eq_true rfl)
  rw [lg_entry_eq]
  generalize (lg_sl ([.ref (a 2), .int p1, .int p2]) ++ List.replicate (3 - (lg_sl ([.ref (a 2), .int p1, .int p2])).length) Slot.unset).toArray = ls at hl ⊢
  have hl : lv_has ls 3 [(0, .ref (a 2)), (1, .int p1), (2, .int p2)] := hl
  unfold fcR_append at h
  refine lv_aload_n hx hb dX2_append_0 rfl (lv_at hl 0 rfl) ?_
  refine va_get (C := RX2) (T := TX2) (N := 2) (ci := 2) hx hb hts igX2 hown C.1 V.1 2 rfl rfl 1 (by decide) (hts _ kcj_13) (fun _ h => h) rfl dX2_append_1 ?_
  refine lv_iload_n hx hb dX2_append_4 rfl (lv_at hl 1 rfl) ?_
  refine lv_bipush (v := (8 : Int32)) hx hb dX2_append_5 (by decide) ?_
  refine lv_imul hx hb dX2_append_7 ?_
  refine lv_aload_n hx hb dX2_append_8 rfl (lv_at hl 0 rfl) ?_
  refine va_get (C := RX2) (T := TX2) (N := 2) (ci := 2) hx hb hts igX2 hown C.1 V.1 2 rfl rfl 0 (by decide) (hts _ kcj_14) (fun _ h => h) rfl dX2_append_9 ?_
  refine lv_iload_n hx hb dX2_append_12 rfl (lv_at hl 1 rfl) ?_
  obtain ⟨i1, h⟩ := ck_e h
  refine va_iald hx hb C.1 V.1 10 0 rfl rfl i1 dX2_append_13 ?_
  refine lv_iadd hx hb dX2_append_14 ?_
  refine lv_iload_n hx hb dX2_append_15 rfl (lv_at hl 2 rfl) ?_
  obtain ⟨i2, h⟩ := ck_e h
  obtain ⟨u3, eu3, h⟩ := gl_e h
  refine gw_iast (u' := u3) hx hb (cjW_as a cA) C V 11 0 rfl rfl i2 (cjS_6 _ _ _ _ _ _ eu3) dX2_append_16 (fun H locs V => ?_)
  refine lv_aload_n hx hb dX2_append_17 rfl (lv_at hl 0 rfl) ?_
  refine va_get (C := RX2) (T := TX2) (N := 2) (ci := 2) hx hb hts igX2 hown C.1 V.1 2 rfl rfl 0 (by decide) (hts _ kcj_14) (fun _ h => h) rfl dX2_append_18 ?_
  refine lv_iload_n hx hb dX2_append_21 rfl (lv_at hl 1 rfl) ?_
  refine lv_dup2_11 hx hb dX2_append_22 rfl rfl ?_
  obtain ⟨i4, h⟩ := ck_e h
  refine va_iald hx hb C.1 V.1 10 0 rfl rfl i4 dX2_append_23 ?_
  refine lv_iconst (v := (1 : Int32)) hx hb dX2_append_24 (by decide) ?_
  refine lv_iadd hx hb dX2_append_25 ?_
  obtain ⟨i5, h⟩ := ck_e h
  obtain ⟨u6, eu6, h⟩ := gl_e h
  refine gw_iast (u' := u6) hx hb (cjW_as a cA) C V 10 0 rfl rfl i5 (cjS_5 _ _ _ _ _ _ eu6) dX2_append_26 (fun H locs V => ?_)
  refine lv_aload_n hx hb dX2_append_27 rfl (lv_at hl 0 rfl) ?_
  refine va_get (C := RX2) (T := TX2) (N := 2) (ci := 2) hx hb hts igX2 hown C.1 V.1 2 rfl rfl 0 (by decide) (hts _ kcj_14) (fun _ h => h) rfl dX2_append_28 ?_
  refine lv_iload_n hx hb dX2_append_31 rfl (lv_at hl 1 rfl) ?_
  obtain ⟨i7, h⟩ := ck_e h
  refine va_iald hx hb C.1 V.1 10 0 rfl rfl i7 dX2_append_32 ?_
  exact gw_reti hx hb hr rfl hlk V (congrArg Prod.fst (Option.some.inj h)) (congrArg Prod.snd (Option.some.inj h)) dX2_append_33
set_option maxHeartbeats 4000000 in
theorem LX4_point_37 {p : Program} {l : Launch} {e : Env} {s : State} {m : MethodId} {below : List Frame} {meth : Method} {c : Code} {args : Array Value} {D : va_G} {a : Nat → Nat} {cA : ClassId} (hl9 : l.stackTraces = false) (B : gw_B p s m args meth c cX4_point 3 (some .int) RX4 gT) (htab : ∀ x ∈ c.exceptionTable.toList, False) (C : gw_C D vwCl [(cA, .int)] (cjA a) gX s) {rv : Nat × Int32 × g_S} : ∀ (x1 : Int32) (x2 : Int32) (y0 : Int32) (u : g_S) (H : Heap) (locs : List Loc) (ls : Array Slot), gw_V D vwCl (cjA a) (cjW a cA) s u H locs → lv_has ls 3 [(0, .ref (a 0)), (1, .int x1), (2, .int x2)] → fcJ_point_37 u x1 x2 y0 = some rv → W p l e rmX4_point s m args below meth c H locs 2 12 (gx_Ei D vwCl (cjA a) (cjW a cA) below args s 3 18 rv.1 rv.2.1 rv.2.2) (F0 m 37 ls [.int y0]) := by
  obtain ⟨hx, hb, hml, hown, hts, hr, hlk⟩ := id B
  intro x1 x2 y0 u H locs ls V hl h
  unfold fcJ_point_37 at h
  obtain ⟨v1, hv1, h⟩ := bi_e h
  refine gx_kv V (vx_runS (As := [.int y0]) (rest := []) ⟨hx, hb, hml, hown, hts⟩ (mX4_needRoom hl9 (D := D) (a := a) (cA := cA) (u := u) hv1) (cwS 1 hts gcjX4_69 rfl rfl rfl (by decide +kernel) ⟨Nat.le_of_ble_eq_true rfl, Nat.le_of_ble_eq_true rfl⟩) (gw_preS gX_ok C V [.int y0]) rfl rfl hl.1 rfl (lv_room (Nat.le_of_ble_eq_true rfl)) dX4_point_37 ⟨Nat.le_of_ble_eq_true rfl, Nat.le_of_ble_eq_true rfl⟩) (fun k0 H locs ce qe V hat => ?_) (fun k0 H locs V => ?_)
  · have h := if_f k0 h
    exact gx_out htab hlk V hat k0 (congrArg (fun z => z.1) (Option.some.inj h)) (congrArg (fun z => z.2.2) (Option.some.inj h)) (Nat.le_of_ble_eq_true rfl) (Nat.le_of_ble_eq_true rfl)
  have h := if_t k0 h
  refine lv_aload_n hx hb dX4_point_40 rfl (lv_at hl 0 rfl) ?_
  refine va_get (C := RX4) (T := TX4) (N := 4) (ci := 4) hx hb hts igX4 hown C.1 V.1 0 rfl rfl 1 (by decide) (hts _ kcj_15) (fun _ h => h) rfl dX4_point_41 ?_
  refine lv_iload_n hx hb dX4_point_44 rfl (lv_at hl 1 rfl) ?_
  refine lv_iload_n hx hb dX4_point_45 rfl (lv_at hl 2 rfl) ?_
  obtain ⟨v2, hv2, h⟩ := bi_e h
  refine gw_ki V (va_runV (As := [.int x1, .int x2]) (rest := []) ⟨hx, hb, hml, hown, hts⟩ (mX2_append (D := D) (a := a) (cA := cA) (u := u) hv2) (cwV 2 hts gcjX4_72 rfl rfl rfl (by decide +kernel) ⟨Nat.le_of_ble_eq_true rfl, Nat.le_of_ble_eq_true rfl⟩) (gw_preV (q0 := 2) (ci := 2) gX_ok C V [.int x1, .int x2] rfl rfl) rfl rfl hl.1 rfl (lv_room (Nat.le_of_ble_eq_true rfl)) dX4_point_46 ⟨Nat.le_of_ble_eq_true rfl, Nat.le_of_ble_eq_true rfl⟩) (fun H locs V => ?_)
  exact gx_reti hx hb hr rfl hlk V (congrArg (fun z => z.1) (Option.some.inj h)).symm (congrArg (fun z => z.2.1) (Option.some.inj h)) (congrArg (fun z => z.2.2) (Option.some.inj h)) (Nat.le_of_ble_eq_true rfl) (Nat.le_of_ble_eq_true rfl) dX4_point_49
set_option maxHeartbeats 4000000 in
theorem mX4_point {l : Launch} (hl9 : l.stackTraces = false) {D : va_G} {a : Nat → Nat} {cA : ClassId} {sz : Nat} {u : g_S} {p1 : Int32} {p2 : Int32} {rv : Nat × Int32 × g_S} (h : fcJ_point u p1 p2 = some rv) : gx_Mi D vwCl [(cA, .int)] (cjA a) gX (cjW a cA) l yX4_point wxX4_point rmX4_point 3 18 sz u [.ref (a 0), .int p1, .int p2] rv.1 rv.2.1 rv.2.2 := by
  refine gx_Mof (Qc := fun z => va_Qi (gx_Pi rv.1 rv.2.1 rv.2.2) (gw_W D vwCl (cjW a cA)) (rg (cjA a) z)) (XC := fun z => vx_X (gx_Px rv.1 rv.2.2) (gx_W D vwCl (cjW a cA) rv.1) (rg (cjA a) z)) (cc := cX4_point) (maxL := 3) (ret := (some .int)) (by decide) rfl ?_
  intro p e s m below meth c B htab C V
  obtain ⟨hx, hb, hml, hown, hts, hr, hlk⟩ := id B
  have hl := lv_entry ([.ref (a 0), .int p1, .int p2]) (n := 3) (Nat.le_of_ble_eq_true rfl)
  rw [lg_entry_eq]
  generalize (lg_sl ([.ref (a 0), .int p1, .int p2]) ++ List.replicate (3 - (lg_sl ([.ref (a 0), .int p1, .int p2])).length) Slot.unset).toArray = ls at hl ⊢
  have hl : lv_has ls 3 [(0, .ref (a 0)), (1, .int p1), (2, .int p2)] := hl
  unfold fcJ_point at h
  refine lv_iload_n hx hb dX4_point_0 rfl (lv_at hl 1 rfl) ?_
  refine lv_bipush (v := (8 : Int32)) hx hb dX4_point_1 (by decide) ?_
  obtain ⟨v1, hv1, h⟩ := bi_e h
  refine gw_ki V (va_runS (As := [.int p1, .int (8 : Int32)]) (rest := []) ⟨hx, hb, hml, hown, hts⟩ (mX4_isBelow (D := D) (a := a) (cA := cA) (u := u) hv1) (cwS 2 hts gcjX4_37 rfl rfl rfl (by decide +kernel) ⟨Nat.le_of_ble_eq_true rfl, Nat.le_of_ble_eq_true rfl⟩) (gw_preS gX_ok C V [.int p1, .int (8 : Int32)]) rfl rfl hl.1 rfl (lv_room (Nat.le_of_ble_eq_true rfl)) dX4_point_3 ⟨Nat.le_of_ble_eq_true rfl, Nat.le_of_ble_eq_true rfl⟩) (fun H locs V => ?_)
  obtain ⟨v2, hv2, h⟩ := bi_e h
  refine gx_kv V (vx_runS (As := [.int v1]) (rest := []) ⟨hx, hb, hml, hown, hts⟩ (mX4_needKnown hl9 (D := D) (a := a) (cA := cA) (u := u) hv2) (cwS 1 hts gcjX4_41 rfl rfl rfl (by decide +kernel) ⟨Nat.le_of_ble_eq_true rfl, Nat.le_of_ble_eq_true rfl⟩) (gw_preS gX_ok C V [.int v1]) rfl rfl hl.1 rfl (lv_room (Nat.le_of_ble_eq_true rfl)) dX4_point_6 ⟨Nat.le_of_ble_eq_true rfl, Nat.le_of_ble_eq_true rfl⟩) (fun k0 H locs ce qe V hat => ?_) (fun k0 H locs V => ?_)
  · have h := if_f k0 h
    exact gx_out htab hlk V hat k0 (congrArg (fun z => z.1) (Option.some.inj h)) (congrArg (fun z => z.2.2) (Option.some.inj h)) (Nat.le_of_ble_eq_true rfl) (Nat.le_of_ble_eq_true rfl)
  have h := if_t k0 h
  refine lv_iload_n hx hb dX4_point_9 rfl (lv_at hl 2 rfl) ?_
  refine lv_ldc (v := (100000000 : Int32)) hx hb hown (hts _ kcj_16) dX4_point_10 ?_
  obtain ⟨v3, hv3, h⟩ := bi_e h
  refine gw_ki V (va_runS (As := [.int p2, .int (100000000 : Int32)]) (rest := []) ⟨hx, hb, hml, hown, hts⟩ (mX4_isBelow (D := D) (a := a) (cA := cA) (u := u) hv3) (cwS 2 hts gcjX4_37 rfl rfl rfl (by decide +kernel) ⟨Nat.le_of_ble_eq_true rfl, Nat.le_of_ble_eq_true rfl⟩) (gw_preS gX_ok C V [.int p2, .int (100000000 : Int32)]) rfl rfl hl.1 rfl (lv_room (Nat.le_of_ble_eq_true rfl)) dX4_point_12 ⟨Nat.le_of_ble_eq_true rfl, Nat.le_of_ble_eq_true rfl⟩) (fun H locs V => ?_)
  obtain ⟨v4, hv4, h⟩ := bi_e h
  refine gx_kv V (vx_runS (As := [.int v3]) (rest := []) ⟨hx, hb, hml, hown, hts⟩ (mX4_needRange hl9 (D := D) (a := a) (cA := cA) (u := u) hv4) (cwS 1 hts gcjX4_45 rfl rfl rfl (by decide +kernel) ⟨Nat.le_of_ble_eq_true rfl, Nat.le_of_ble_eq_true rfl⟩) (gw_preS gX_ok C V [.int v3]) rfl rfl hl.1 rfl (lv_room (Nat.le_of_ble_eq_true rfl)) dX4_point_15 ⟨Nat.le_of_ble_eq_true rfl, Nat.le_of_ble_eq_true rfl⟩) (fun k0 H locs ce qe V hat => ?_) (fun k0 H locs V => ?_)
  · have h := if_f k0 h
    exact gx_out htab hlk V hat k0 (congrArg (fun z => z.1) (Option.some.inj h)) (congrArg (fun z => z.2.2) (Option.some.inj h)) (Nat.le_of_ble_eq_true rfl) (Nat.le_of_ble_eq_true rfl)
  have h := if_t k0 h
  refine lv_aload_n hx hb dX4_point_18 rfl (lv_at hl 0 rfl) ?_
  refine va_get (C := RX4) (T := TX4) (N := 4) (ci := 4) hx hb hts igX4 hown C.1 V.1 0 rfl rfl 1 (by decide) (hts _ kcj_15) (fun _ h => h) rfl dX4_point_19 ?_
  refine va_get (C := RX2) (T := TX2) (N := 2) (ci := 2) hx hb hts igX2 hown C.1 V.1 2 rfl rfl 0 (by decide) (hts _ kcj_17) (fun _ h => h) rfl dX4_point_22 ?_
  refine lv_iload_n hx hb dX4_point_25 rfl (lv_at hl 1 rfl) ?_
  obtain ⟨i5, h⟩ := ck_e h
  refine va_iald hx hb C.1 V.1 10 0 rfl rfl i5 dX4_point_26 ?_
  refine lv_bipush (v := (8 : Int32)) hx hb dX4_point_27 (by decide) ?_
  refine lv_icmp_ge (tgt := 36) hx hb dX4_point_29 (by decide) (fun c6 => ?_) (fun c6 => ?_)
  · have h := if_t c6 h
    refine lv_iconst (v := (0 : Int32)) hx hb dX4_point_36 (by decide) ?_
    exact LX4_point_37 hl9 B htab C p1 p2 (0 : Int32) u _ _ _ V (lv_sub hl [0, 1, 2] rfl) h
  · have h := if_f c6 h
    refine lv_iconst (v := (1 : Int32)) hx hb dX4_point_32 (by decide) ?_
    refine lv_goto (tgt := 37) hx hb dX4_point_33 (by decide) ?_
    exact LX4_point_37 hl9 B htab C p1 p2 (1 : Int32) u _ _ _ V (lv_sub hl [0, 1, 2] rfl) h
end
