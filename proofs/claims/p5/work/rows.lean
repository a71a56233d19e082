section
def lw_okq (q : MethodName × Nat) : Prop := (q.1.cls ≠ "java/lang/invoke/MethodHandle" ∧ q.1.cls ≠ "java/lang/invoke/VarHandle") ∧ Cond.instantiable q.1.cls q.2 ∈ tables_1 ∧ Cond.privateMethod q.1 ∈ tables_1 ∧ Cond.instanceMethod q.1 ∈ tables_1
theorem lw_p0 : lw_okq (⟨"java/lang/Throwable", "fillInStackTrace", "(I)Ljava/lang/Throwable;"⟩, 6) := ⟨⟨by decide +kernel, by decide +kernel⟩, List.mem_of_getElem? (i := 225) (by decide +kernel), List.mem_of_getElem? (i := 223) (by decide +kernel), List.mem_of_getElem? (i := 224) (by decide +kernel)⟩
theorem lw_p1 : lw_okq (⟨"CallJoin", "needCallData", "(IIIII)V"⟩, 4) := ⟨⟨by decide +kernel, by decide +kernel⟩, List.mem_of_getElem? (i := 18) (by decide +kernel), List.mem_of_getElem? (i := 321) (by decide +kernel), List.mem_of_getElem? (i := 322) (by decide +kernel)⟩
theorem lw_p2 : lw_okq (⟨"CallJoin", "seekReason", "(I)V"⟩, 4) := ⟨⟨by decide +kernel, by decide +kernel⟩, List.mem_of_getElem? (i := 18) (by decide +kernel), List.mem_of_getElem? (i := 333) (by decide +kernel), List.mem_of_getElem? (i := 334) (by decide +kernel)⟩
theorem lw_p3 : lw_okq (⟨"CallJoin", "latestOfLine", "(I)I"⟩, 4) := ⟨⟨by decide +kernel, by decide +kernel⟩, List.mem_of_getElem? (i := 18) (by decide +kernel), List.mem_of_getElem? (i := 337) (by decide +kernel), List.mem_of_getElem? (i := 338) (by decide +kernel)⟩
theorem lw_p4 : lw_okq (⟨"CallJoin", "canBeReason", "(I)Z"⟩, 4) := ⟨⟨by decide +kernel, by decide +kernel⟩, List.mem_of_getElem? (i := 18) (by decide +kernel), List.mem_of_getElem? (i := 341) (by decide +kernel), List.mem_of_getElem? (i := 342) (by decide +kernel)⟩
theorem lw_p5 : lw_okq (⟨"CallJoin", "isInOpenEvent", "(I)Z"⟩, 4) := ⟨⟨by decide +kernel, by decide +kernel⟩, List.mem_of_getElem? (i := 18) (by decide +kernel), List.mem_of_getElem? (i := 349) (by decide +kernel), List.mem_of_getElem? (i := 350) (by decide +kernel)⟩
theorem lw_p6 : lw_okq (⟨"CallJoin", "isWithinSpan", "(II)Z"⟩, 4) := ⟨⟨by decide +kernel, by decide +kernel⟩, List.mem_of_getElem? (i := 18) (by decide +kernel), List.mem_of_getElem? (i := 353) (by decide +kernel), List.mem_of_getElem? (i := 354) (by decide +kernel)⟩
theorem lw_p7 : lw_okq (⟨"CallJoin", "takeReason", "(III)Z"⟩, 4) := ⟨⟨by decide +kernel, by decide +kernel⟩, List.mem_of_getElem? (i := 18) (by decide +kernel), List.mem_of_getElem? (i := 357) (by decide +kernel), List.mem_of_getElem? (i := 358) (by decide +kernel)⟩
theorem lw_p8 : lw_okq (⟨"CallJoin", "firstOnStretch", "(I)I"⟩, 4) := ⟨⟨by decide +kernel, by decide +kernel⟩, List.mem_of_getElem? (i := 18) (by decide +kernel), List.mem_of_getElem? (i := 361) (by decide +kernel), List.mem_of_getElem? (i := 362) (by decide +kernel)⟩
theorem lw_p9 : lw_okq (⟨"CallJoin", "isOnStretch", "(II)Z"⟩, 4) := ⟨⟨by decide +kernel, by decide +kernel⟩, List.mem_of_getElem? (i := 18) (by decide +kernel), List.mem_of_getElem? (i := 369) (by decide +kernel), List.mem_of_getElem? (i := 370) (by decide +kernel)⟩
theorem lw_p10 : lw_okq (⟨"CallJoin", "nearestByPlace", "(I)I"⟩, 4) := ⟨⟨by decide +kernel, by decide +kernel⟩, List.mem_of_getElem? (i := 18) (by decide +kernel), List.mem_of_getElem? (i := 392) (by decide +kernel), List.mem_of_getElem? (i := 393) (by decide +kernel)⟩
theorem lw_p11 : lw_okq (⟨"CallJoin", "isCandidate", "(II)Z"⟩, 4) := ⟨⟨by decide +kernel, by decide +kernel⟩, List.mem_of_getElem? (i := 18) (by decide +kernel), List.mem_of_getElem? (i := 396) (by decide +kernel), List.mem_of_getElem? (i := 397) (by decide +kernel)⟩
theorem lw_p12 : lw_okq (⟨"CallJoin", "agreement", "(II)I"⟩, 4) := ⟨⟨by decide +kernel, by decide +kernel⟩, List.mem_of_getElem? (i := 18) (by decide +kernel), List.mem_of_getElem? (i := 400) (by decide +kernel), List.mem_of_getElem? (i := 401) (by decide +kernel)⟩
theorem lw_p13 : lw_okq (⟨"CallJoin", "greatestShare", "(I)I"⟩, 4) := ⟨⟨by decide +kernel, by decide +kernel⟩, List.mem_of_getElem? (i := 18) (by decide +kernel), List.mem_of_getElem? (i := 414) (by decide +kernel), List.mem_of_getElem? (i := 415) (by decide +kernel)⟩
theorem lw_p14 : lw_okq (⟨"CallJoin$Calls", "isUnder", "(II)Z"⟩, 11) := ⟨⟨by decide +kernel, by decide +kernel⟩, List.mem_of_getElem? (i := 71) (by decide +kernel), List.mem_of_getElem? (i := 467) (by decide +kernel), List.mem_of_getElem? (i := 468) (by decide +kernel)⟩
theorem lw_p15 : lw_okq (⟨"CallJoin", "needTwoCalls", "(II)V"⟩, 4) := ⟨⟨by decide +kernel, by decide +kernel⟩, List.mem_of_getElem? (i := 18) (by decide +kernel), List.mem_of_getElem? (i := 514) (by decide +kernel), List.mem_of_getElem? (i := 515) (by decide +kernel)⟩
def lw_privs_1 : List (MethodName × Nat) := [(⟨"java/lang/Throwable", "fillInStackTrace", "(I)Ljava/lang/Throwable;"⟩, 6), (⟨"CallJoin", "needCallData", "(IIIII)V"⟩, 4), (⟨"CallJoin", "seekReason", "(I)V"⟩, 4), (⟨"CallJoin", "latestOfLine", "(I)I"⟩, 4), (⟨"CallJoin", "canBeReason", "(I)Z"⟩, 4), (⟨"CallJoin", "isInOpenEvent", "(I)Z"⟩, 4), (⟨"CallJoin", "isWithinSpan", "(II)Z"⟩, 4), (⟨"CallJoin", "takeReason", "(III)Z"⟩, 4), (⟨"CallJoin", "firstOnStretch", "(I)I"⟩, 4), (⟨"CallJoin", "isOnStretch", "(II)Z"⟩, 4), (⟨"CallJoin", "nearestByPlace", "(I)I"⟩, 4), (⟨"CallJoin", "isCandidate", "(II)Z"⟩, 4), (⟨"CallJoin", "agreement", "(II)I"⟩, 4), (⟨"CallJoin", "greatestShare", "(I)I"⟩, 4), (⟨"CallJoin$Calls", "isUnder", "(II)Z"⟩, 11), (⟨"CallJoin", "needTwoCalls", "(II)V"⟩, 4)]
theorem lw_r1 : ∀ q ∈ lw_privs_1, lw_okq q := List.forall_mem_cons.mpr ⟨lw_p0, List.forall_mem_cons.mpr ⟨lw_p1, List.forall_mem_cons.mpr ⟨lw_p2, List.forall_mem_cons.mpr ⟨lw_p3, List.forall_mem_cons.mpr ⟨lw_p4, List.forall_mem_cons.mpr ⟨lw_p5, List.forall_mem_cons.mpr ⟨lw_p6, List.forall_mem_cons.mpr ⟨lw_p7, List.forall_mem_cons.mpr ⟨lw_p8, List.forall_mem_cons.mpr ⟨lw_p9, List.forall_mem_cons.mpr ⟨lw_p10, List.forall_mem_cons.mpr ⟨lw_p11, List.forall_mem_cons.mpr ⟨lw_p12, List.forall_mem_cons.mpr ⟨lw_p13, List.forall_mem_cons.mpr ⟨lw_p14, List.forall_mem_cons.mpr ⟨lw_p15, fun _ h => absurd h List.not_mem_nil⟩⟩⟩⟩⟩⟩⟩⟩⟩⟩⟩⟩⟩⟩⟩⟩
theorem lw_p16 : lw_okq (⟨"CallJoin$Calls", "weighCall", "(I)I"⟩, 11) := ⟨⟨by decide +kernel, by decide +kernel⟩, List.mem_of_getElem? (i := 71) (by decide +kernel), List.mem_of_getElem? (i := 560) (by decide +kernel), List.mem_of_getElem? (i := 561) (by decide +kernel)⟩
theorem lw_p17 : lw_okq (⟨"CallJoinModel", "throwing", "(ZZZ)Z"⟩, 24) := ⟨⟨by decide +kernel, by decide +kernel⟩, List.mem_of_getElem? (i := 598) (by decide +kernel), List.mem_of_getElem? (i := 692) (by decide +kernel), List.mem_of_getElem? (i := 693) (by decide +kernel)⟩
theorem lw_p18 : lw_okq (⟨"CallJoinModel", "isRange", "(III)Z"⟩, 24) := ⟨⟨by decide +kernel, by decide +kernel⟩, List.mem_of_getElem? (i := 598) (by decide +kernel), List.mem_of_getElem? (i := 718) (by decide +kernel), List.mem_of_getElem? (i := 719) (by decide +kernel)⟩
theorem lw_p19 : lw_okq (⟨"CallJoinModel", "reason", "(IIIIII)I"⟩, 24) := ⟨⟨by decide +kernel, by decide +kernel⟩, List.mem_of_getElem? (i := 598) (by decide +kernel), List.mem_of_getElem? (i := 722) (by decide +kernel), List.mem_of_getElem? (i := 723) (by decide +kernel)⟩
theorem lw_p20 : lw_okq (⟨"CallJoinModel", "again", "(III)I"⟩, 24) := ⟨⟨by decide +kernel, by decide +kernel⟩, List.mem_of_getElem? (i := 598) (by decide +kernel), List.mem_of_getElem? (i := 726) (by decide +kernel), List.mem_of_getElem? (i := 727) (by decide +kernel)⟩
theorem lw_p21 : lw_okq (⟨"CallJoinModel", "isOpen", "(I)Z"⟩, 24) := ⟨⟨by decide +kernel, by decide +kernel⟩, List.mem_of_getElem? (i := 598) (by decide +kernel), List.mem_of_getElem? (i := 730) (by decide +kernel), List.mem_of_getElem? (i := 731) (by decide +kernel)⟩
theorem lw_p22 : lw_okq (⟨"CallJoinModel", "isHoax", "(I)Z"⟩, 24) := ⟨⟨by decide +kernel, by decide +kernel⟩, List.mem_of_getElem? (i := 598) (by decide +kernel), List.mem_of_getElem? (i := 734) (by decide +kernel), List.mem_of_getElem? (i := 735) (by decide +kernel)⟩
theorem lw_p23 : lw_okq (⟨"CallJoinModel", "onStretch", "(III)I"⟩, 24) := ⟨⟨by decide +kernel, by decide +kernel⟩, List.mem_of_getElem? (i := 598) (by decide +kernel), List.mem_of_getElem? (i := 738) (by decide +kernel), List.mem_of_getElem? (i := 739) (by decide +kernel)⟩
theorem lw_p24 : lw_okq (⟨"CallJoinModel", "firstOf", "(I)I"⟩, 24) := ⟨⟨by decide +kernel, by decide +kernel⟩, List.mem_of_getElem? (i := 598) (by decide +kernel), List.mem_of_getElem? (i := 742) (by decide +kernel), List.mem_of_getElem? (i := 743) (by decide +kernel)⟩
theorem lw_p25 : lw_okq (⟨"CallJoinModel", "isOn", "(III)Z"⟩, 24) := ⟨⟨by decide +kernel, by decide +kernel⟩, List.mem_of_getElem? (i := 598) (by decide +kernel), List.mem_of_getElem? (i := 746) (by decide +kernel), List.mem_of_getElem? (i := 747) (by decide +kernel)⟩
theorem lw_p26 : lw_okq (⟨"CallJoinModel", "agreeing", "(IIIII)I"⟩, 24) := ⟨⟨by decide +kernel, by decide +kernel⟩, List.mem_of_getElem? (i := 598) (by decide +kernel), List.mem_of_getElem? (i := 757) (by decide +kernel), List.mem_of_getElem? (i := 758) (by decide +kernel)⟩
theorem lw_p27 : lw_okq (⟨"CallJoinModel", "meets", "(IIIII)I"⟩, 24) := ⟨⟨by decide +kernel, by decide +kernel⟩, List.mem_of_getElem? (i := 598) (by decide +kernel), List.mem_of_getElem? (i := 761) (by decide +kernel), List.mem_of_getElem? (i := 762) (by decide +kernel)⟩
theorem lw_p28 : lw_okq (⟨"CallJoinModel", "sum", "(II)I"⟩, 24) := ⟨⟨by decide +kernel, by decide +kernel⟩, List.mem_of_getElem? (i := 598) (by decide +kernel), List.mem_of_getElem? (i := 765) (by decide +kernel), List.mem_of_getElem? (i := 766) (by decide +kernel)⟩
theorem lw_p29 : lw_okq (⟨"CallJoinModel", "isEnough", "(III)Z"⟩, 24) := ⟨⟨by decide +kernel, by decide +kernel⟩, List.mem_of_getElem? (i := 598) (by decide +kernel), List.mem_of_getElem? (i := 769) (by decide +kernel), List.mem_of_getElem? (i := 770) (by decide +kernel)⟩
theorem lw_p30 : lw_okq (⟨"CallJoinModel", "isBetter", "(IIIII)Z"⟩, 24) := ⟨⟨by decide +kernel, by decide +kernel⟩, List.mem_of_getElem? (i := 598) (by decide +kernel), List.mem_of_getElem? (i := 774) (by decide +kernel), List.mem_of_getElem? (i := 775) (by decide +kernel)⟩
theorem lw_p31 : lw_okq (⟨"CallJoinModel", "newEvent", "()I"⟩, 24) := ⟨⟨by decide +kernel, by decide +kernel⟩, List.mem_of_getElem? (i := 598) (by decide +kernel), List.mem_of_getElem? (i := 778) (by decide +kernel), List.mem_of_getElem? (i := 779) (by decide +kernel)⟩
def lw_privs_2 : List (MethodName × Nat) := [(⟨"CallJoin$Calls", "weighCall", "(I)I"⟩, 11), (⟨"CallJoinModel", "throwing", "(ZZZ)Z"⟩, 24), (⟨"CallJoinModel", "isRange", "(III)Z"⟩, 24), (⟨"CallJoinModel", "reason", "(IIIIII)I"⟩, 24), (⟨"CallJoinModel", "again", "(III)I"⟩, 24), (⟨"CallJoinModel", "isOpen", "(I)Z"⟩, 24), (⟨"CallJoinModel", "isHoax", "(I)Z"⟩, 24), (⟨"CallJoinModel", "onStretch", "(III)I"⟩, 24), (⟨"CallJoinModel", "firstOf", "(I)I"⟩, 24), (⟨"CallJoinModel", "isOn", "(III)Z"⟩, 24), (⟨"CallJoinModel", "agreeing", "(IIIII)I"⟩, 24), (⟨"CallJoinModel", "meets", "(IIIII)I"⟩, 24), (⟨"CallJoinModel", "sum", "(II)I"⟩, 24), (⟨"CallJoinModel", "isEnough", "(III)Z"⟩, 24), (⟨"CallJoinModel", "isBetter", "(IIIII)Z"⟩, 24), (⟨"CallJoinModel", "newEvent", "()I"⟩, 24)]
theorem lw_r2 : ∀ q ∈ lw_privs_2, lw_okq q := List.forall_mem_cons.mpr ⟨lw_p16, List.forall_mem_cons.mpr ⟨lw_p17, List.forall_mem_cons.mpr ⟨lw_p18, List.forall_mem_cons.mpr ⟨lw_p19, List.forall_mem_cons.mpr ⟨lw_p20, List.forall_mem_cons.mpr ⟨lw_p21, List.forall_mem_cons.mpr ⟨lw_p22, List.forall_mem_cons.mpr ⟨lw_p23, List.forall_mem_cons.mpr ⟨lw_p24, List.forall_mem_cons.mpr ⟨lw_p25, List.forall_mem_cons.mpr ⟨lw_p26, List.forall_mem_cons.mpr ⟨lw_p27, List.forall_mem_cons.mpr ⟨lw_p28, List.forall_mem_cons.mpr ⟨lw_p29, List.forall_mem_cons.mpr ⟨lw_p30, List.forall_mem_cons.mpr ⟨lw_p31, fun _ h => absurd h List.not_mem_nil⟩⟩⟩⟩⟩⟩⟩⟩⟩⟩⟩⟩⟩⟩⟩⟩
theorem lw_p32 : lw_okq (⟨"CallJoinModel", "isCall", "(I)Z"⟩, 24) := ⟨⟨by decide +kernel, by decide +kernel⟩, List.mem_of_getElem? (i := 598) (by decide +kernel), List.mem_of_getElem? (i := 790) (by decide +kernel), List.mem_of_getElem? (i := 791) (by decide +kernel)⟩
theorem lw_p33 : lw_okq (⟨"CallJoinModel", "isEvent", "(I)Z"⟩, 24) := ⟨⟨by decide +kernel, by decide +kernel⟩, List.mem_of_getElem? (i := 598) (by decide +kernel), List.mem_of_getElem? (i := 802) (by decide +kernel), List.mem_of_getElem? (i := 803) (by decide +kernel)⟩
theorem lw_p34 : lw_okq (⟨"CallJoinModel", "size", "(I)I"⟩, 24) := ⟨⟨by decide +kernel, by decide +kernel⟩, List.mem_of_getElem? (i := 598) (by decide +kernel), List.mem_of_getElem? (i := 806) (by decide +kernel), List.mem_of_getElem? (i := 807) (by decide +kernel)⟩
theorem lw_p35 : lw_okq (⟨"CallJoinModel", "weightOf", "(I)I"⟩, 24) := ⟨⟨by decide +kernel, by decide +kernel⟩, List.mem_of_getElem? (i := 598) (by decide +kernel), List.mem_of_getElem? (i := 834) (by decide +kernel), List.mem_of_getElem? (i := 835) (by decide +kernel)⟩
theorem lw_p36 : lw_okq (⟨"CallJoinModel", "placeOf", "(I)I"⟩, 24) := ⟨⟨by decide +kernel, by decide +kernel⟩, List.mem_of_getElem? (i := 598) (by decide +kernel), List.mem_of_getElem? (i := 838) (by decide +kernel), List.mem_of_getElem? (i := 839) (by decide +kernel)⟩
theorem lw_p37 : lw_okq (⟨"CallJoinModel", "latestOf", "(I)I"⟩, 24) := ⟨⟨by decide +kernel, by decide +kernel⟩, List.mem_of_getElem? (i := 598) (by decide +kernel), List.mem_of_getElem? (i := 842) (by decide +kernel), List.mem_of_getElem? (i := 843) (by decide +kernel)⟩
def lw_privs_3 : List (MethodName × Nat) := [(⟨"CallJoinModel", "isCall", "(I)Z"⟩, 24), (⟨"CallJoinModel", "isEvent", "(I)Z"⟩, 24), (⟨"CallJoinModel", "size", "(I)I"⟩, 24), (⟨"CallJoinModel", "weightOf", "(I)I"⟩, 24), (⟨"CallJoinModel", "placeOf", "(I)I"⟩, 24), (⟨"CallJoinModel", "latestOf", "(I)I"⟩, 24)]
theorem lw_r3 : ∀ q ∈ lw_privs_3, lw_okq q := List.forall_mem_cons.mpr ⟨lw_p32, List.forall_mem_cons.mpr ⟨lw_p33, List.forall_mem_cons.mpr ⟨lw_p34, List.forall_mem_cons.mpr ⟨lw_p35, List.forall_mem_cons.mpr ⟨lw_p36, List.forall_mem_cons.mpr ⟨lw_p37, fun _ h => absurd h List.not_mem_nil⟩⟩⟩⟩⟩⟩
def lw_privs : List (MethodName × Nat) := lw_privs_1 ++ (lw_privs_2 ++ (lw_privs_3))
def lw_tbl : List Cond := k2_sels lw_privs ++ tables_1
theorem lw_privs_ok : ∀ q ∈ lw_privs, lw_okq q := by
  show ∀ q ∈ lw_privs_1 ++ (lw_privs_2 ++ (lw_privs_3)), lw_okq q
  exact List.forall_mem_append.mpr ⟨lw_r1, List.forall_mem_append.mpr ⟨lw_r2, lw_r3⟩⟩
end
section
theorem goodIn_r {big : List Cond} (ws : List Cond) (ps : List Nat) (hp : ws = ps.filterMap (fun i => big[i]?)) (h : ws.all goodWord = true) : GoodIn big ws := by
  intro w hw
  have h1 := List.all_eq_true.mp h w hw
  rw [hp] at hw
  obtain ⟨i, -, hi⟩ := List.mem_filterMap.mp hw
  have hm : w ∈ big := by first | exact List.mem_of_getElem? hi | exact List.getElem?_mem hi
  exact ⟨hm, good_of_word h1⟩
theorem goodIn_app {big a b : List Cond} (ha : GoodIn big a) (hb : GoodIn big b) : GoodIn big (a ++ b) := fun w h => (List.mem_append.mp h).elim (ha w) (hb w)
theorem goodIn_ca {big a b : List Cond} {c : Cond} (ha : GoodIn big (c :: a)) (hb : GoodIn big b) : GoodIn big (c :: (a ++ b)) := fun w h => (List.mem_cons.mp h).elim (fun e => ha w (List.mem_cons.mpr (Or.inl e))) (fun h => (List.mem_append.mp h).elim (fun h => ha w (List.mem_cons.mpr (Or.inr h))) (hb w))
theorem goodIn_sub {big ws : List Cond} (hm : ∀ w ∈ ws, w ∈ big) (h : ws.all goodWord = true) : GoodIn big ws := fun w hw => ⟨hm w hw, good_of_word (List.all_eq_true.mp h w hw)⟩

section VXA
def vx_T (XC : String → State → State → Prop) (st : State) (q : Addr) (t : State) (mc ms : Nat) (free : Addr → Prop) : Prop :=
  ∃ (E : String) (ce : Cell) (L : List Loc), XC E st t ∧ t.heap[q]? = some ce ∧ ce.vm = .none ∧ st.vm.findClass E = some ce.cls ∧ st.WarmedH t.vm ∧ st.sameButNew ({ t with vm := st.vm } : State) L mc ms ∧ ∀ z ∈ L, free z.base
def vx_Q (Qc : Array Value → State → Outcome → State → Prop) (XC : String → State → State → Prop) (mc ms : Nat) (free : Addr → Prop) : Array Value → State → Outcome → State → Prop := fun a st o t =>
  (Qc a st o t ∧ ∃ L, FrameEnd st o t L mc ms ∧ ∀ q ∈ L, free q.base) ∨ ∃ q, o = .threw q ∧ vx_T XC st q t mc ms free
def vx_Met (l : Launch) (y : MethodName) (ws : List Cond) (rm : Room) (Pc : Array Value → State → Prop) (Qc : Array Value → State → Outcome → State → Prop) (XC : String → State → State → Prop) (mc ms : Nat) (free : Addr → Prop) : Prop :=
  MetFree l y (headSpec ws rm) Pc (fun _ _ _ _ _ => True) (vx_Q Qc XC mc ms free)
def vx_Post (XC : String → State → State → Prop) (mc ms : Nat) (free : Addr → Prop) : Pt → Array Value → Addr → Pt → Prop := fun A a q B =>
  ∃ (g : JFrame) (mk : MethodId) (t : State) (L : List Loc) (E : String) (ce : Cell), B.U.heap = t.heap ∧ B.U.vm = t.vm ∧ XC E (A.U.calling g mk a) t ∧ t.heap[q]? = some ce ∧ ce.vm = .none ∧ A.U.vm.findClass E = some ce.cls ∧ B.locs = A.locs ++ L ∧ (∀ z ∈ L, free z.base) ∧ B.cells = A.cells + mc ∧ B.slots = A.slots + ms
def vx_Back (l : Launch) (R : Room) (p : Program) (e : Env) (below : List Frame) (s : State) (sargs : Array Value) (y : MethodName) (len W9 : Nat)
    (Pre : Pt → Array Value → Prop) (Post : Pt → Array Value → Option Value → Pt → Prop) (PostX : Pt → Array Value → Addr → Pt → Prop) : Prop :=
  ∀ (m : MethodId) (meth : Method) (c : Code) (A : Pt) (g : JFrame) (ig : Instr) (mk : MethodId) (a : Array Value),
    Stand p l e R s m sargs below meth c A.U A.locs A.cells A.slots → g.method = m → g.locals.size = c.maxLocals → decode c.code g.pc = .ok (ig, len) →
    2 * g.monitorRoom + (g.stack.map fun v => v.category).sum ≤ W9 → A.U.methodNamed? y = some mk → Pre A a →
    (∃ (v : Option Value) (B : Pt), Stand p l e R s m sargs below meth c B.U B.locs B.cells B.slots ∧ Post A a v B ∧
      Steps p.tables e below (doInvoke e (A.U.setTop g) [] mk a).1 (B.U.setTop { g with pc := g.pc + len, stack := v.toList ++ g.stack })) ∨
    (∃ (q : Addr) (B : Pt), Stand p l e R s m sargs below meth c B.U B.locs B.cells B.slots ∧ PostX A a q B ∧
      Steps p.tables e below (doInvoke e (A.U.setTop g) [] mk a).1 ((B.U.setTop g).pushFrame (.throwing q)))
section Payer
variable {l : Launch} {R : Room} {p : Program} {e : Env} {below : List Frame} {s : State} {sargs : Array Value} {y : MethodName} {len W9 : Nat}
theorem vx_back {ws : List Cond} {rm : Room} {Pc : Array Value → State → Prop} {Qc : Array Value → State → Outcome → State → Prop} {XC : String → State → State → Prop} {mc ms : Nat} {free : Addr → Prop} {bytes : ByteArray} {maxL : Nat} {ret : Option FieldType}
    (hM : vx_Met l y ws rm Pc Qc XC mc ms free) (hblind : FrameBlind Pc) (hrc : rm.cells = mc) (hrs : rm.slots = ms)
    (hframes : rm.frames + 1 ≤ R.frames) (hlocals : W9 + (maxL + 11) + rm.locals ≤ R.locals)
    (hws : ∀ w ∈ ws, ∀ a' U, s.WarmedH U.vm → w.before a' U = true) (hcode : Cond.code y bytes maxL ret ∈ ws) (hinit : ∀ a' U, s.WarmedH U.vm → (Cond.initialized y.cls).before a' U = true) :
    vx_Back l R p e below s sargs y len W9 (PreOf R mc ms Pc) (PostOf Qc mc ms free) (vx_Post XC mc ms free) := by
  intro m meth c A g ig mk a X hg hsize hdg hW hn hp
  have h1 : (headSpec ws rm).pre.before a A.U = true := atoms_intro fun w hw => hws w hw _ _ X.warmed
  have h2 : (Cond.code y bytes maxL ret).before a A.U = true := hws _ hcode _ _ X.warmed
  have h3 : (Cond.initialized y.cls).before a A.U = true := hinit _ _ X.warmed
  have h4 : A.cells + (headSpec ws rm).room.cells ≤ R.cells := by rw [show (headSpec ws rm).room.cells = mc from hrc]; exact hp.1
  have h5 : A.slots + (headSpec ws rm).room.slots ≤ R.slots := by rw [show (headSpec ws rm).room.slots = ms from hrs]; exact hp.2.1
  have hPc : Pc a (A.U.calling g mk a) := hblind _ _ _ _ hp.2.2
  obtain ⟨U, Ls, c0, s0⟩ := A
  dsimp only [Pt.U, Pt.locs, Pt.cells, Pt.slots] at h1 h2 h3 h4 h5 X hn hPc ⊢
  obtain ⟨methY, cY, hmY, hcY, -, hlY, -, -, -, -⟩ := Cond.code_spec hn h2
  obtain ⟨kY, hkY, -⟩ := className_of_methodNamed hn
  have hinitY : kY.init = .initialized := Cond.initialized_spec (findClass_of_methodNamed hn) hkY h3
  have h : At U g.method c below := by rw [hg]; exact X.here
  have hlocals9 : W9 + (maxL + 11) + (headSpec ws rm).room.locals ≤ R.locals := hlocals
  have happ : (headSpec ws rm).appliesLoose y e.platform (U.calling g mk a) = true :=
    Spec.appliesLoose_calling (g := g) h hdg hn hkY hinitY
      (X.room_calling (g := g) (R' := (headSpec ws rm).room) hsize hmY hcY hframes (by rw [hlY]; omega) h4 h5) h1
  obtain ⟨mid, hmid⟩ := h.above
  have hfr : (U.setTop g).frames = (.java g :: mid) ++ below := by rw [State.frames_setTop' g h.top, hmid]; rfl
  obtain ⟨o, s₂, hsteps, -, hend, hq⟩ := Steps.callFree hM p X.admits X.cas X.clock (acts := []) hfr happ hPc trivial
  have hq' : vx_Q Qc XC mc ms free a (U.calling g mk a) o s₂ := hq
  rw [State.frames_setTop' g h.top] at hend
  obtain ⟨g₀, hg0⟩ := Option.isSome_iff_exists.mp h.top
  obtain ⟨r, hr⟩ := State.topJava?_eq_some.mp hg0
  have hr' : (({ U with heap := s₂.heap, slotsUsed := s₂.slotsUsed } : State).setVm s₂.vm).frames = .java g₀ :: r := hr
  rcases hq' with ⟨hqc, L, hfe, hL⟩ | ⟨q, rfl, E, ce, L, hx, hce, hcv, hcl, hW₂, hsm, hL⟩
  · obtain ⟨⟨v, rfl⟩, hW₂, e2, q2, q3, q4, q5, q6⟩ := id hfe
    have e3 : s₂ = ({ (U.calling g mk a).setFrames s₂.frames with heap := s₂.heap, slotsUsed := s₂.slotsUsed } : State).setVm s₂.vm := by
      have : s₂ = ({ s₂ with vm := (U.calling g mk a).vm } : State).setVm s₂.vm := rfl
      rw [e2] at this
      exact this
    obtain ⟨c₂, i₂, len₂, hc₂, hd₂, hf₂⟩ := hend
    have hW' : U.WarmedH s₂.vm := hW₂
    have hcc : c₂ = c := by
      have h1 : s₂.code? g.method = U.code? g.method := by
        rw [State.code?_eq, State.code?_eq, hW'.alike.method?]
      exact Option.some.inj (hc₂.symm.trans (h1.trans h.code))
    subst hcc
    have hlen : len₂ = len := by rw [hdg] at hd₂; cases hd₂; rfl
    subst hlen
    have hs₂ : s₂ = (({ U with heap := s₂.heap, slotsUsed := s₂.slotsUsed } : State).setVm s₂.vm).setTop { g with pc := g.pc + len₂, stack := v.toList ++ g.stack } := by
      refine e3.trans ?_
      rw [hf₂, State.calling_eq h.top, State.setFrames_setFrames, State.setTop_of_frames _ hr', hr]
      rfl
    have hsame : U.sameButNew ({ U with heap := s₂.heap, slotsUsed := s₂.slotsUsed } : State) L mc ms := by
      refine ⟨?_, q2, q3, q4, q5, q6⟩
      obtain ⟨t, ht, -⟩ := State.frames_cons hr
      show ({ U with heap := s₂.heap, slotsUsed := s₂.slotsUsed } : State) = { U.setFrames U.frames with heap := s₂.heap, slotsUsed := s₂.slotsUsed }
      rw [State.setFrames_self ht]
    subst hg
    refine Or.inl ⟨v, ⟨(({ U with heap := s₂.heap, slotsUsed := s₂.slotsUsed } : State).setVm s₂.vm), Ls ++ L, c0 + mc, s0 + ms⟩,
      ⟨X.admits, X.cas, X.clock, X.frames, X.room, X.hears, X.method, X.code, (X.here.setHeapUsed s₂.heap s₂.slotsUsed).setVm hW'.alike, X.tail, State.WarmedH.trans X.warmed hW', X.limits, X.bytes, X.same.trans (hsame.setVm s.vm)⟩,
      ⟨g, mk, s₂, L, rfl, rfl, hqc, rfl, hL, rfl, rfl⟩, ?_⟩
    show Steps p.tables e below _ ((({ U with heap := s₂.heap, slotsUsed := s₂.slotsUsed } : State).setVm s₂.vm).setTop { g with pc := g.pc + len₂, stack := v.toList ++ g.stack })
    rw [← hs₂]
    exact hsteps
  · obtain ⟨e2, q2, q3, q4, q5, q6⟩ := id hsm
    have e3 : s₂ = ({ (U.calling g mk a).setFrames s₂.frames with heap := s₂.heap, slotsUsed := s₂.slotsUsed } : State).setVm s₂.vm := by
      have : s₂ = ({ s₂ with vm := (U.calling g mk a).vm } : State).setVm s₂.vm := rfl
      rw [e2] at this
      exact this
    have hf₂ : s₂.frames = .throwing q :: .java g :: U.frames.tail := hend
    have hW' : U.WarmedH s₂.vm := hW₂
    have hs₂ : s₂ = ((({ U with heap := s₂.heap, slotsUsed := s₂.slotsUsed } : State).setVm s₂.vm).setTop g).pushFrame (.throwing q) := by
      refine e3.trans ?_
      rw [hf₂, State.calling_eq h.top, State.setFrames_setFrames, State.pushFrame, State.frames_setTop _ hr', State.setTop_of_frames _ hr', State.setFrames_setFrames, hr]
      rfl
    have hsame : U.sameButNew ({ U with heap := s₂.heap, slotsUsed := s₂.slotsUsed } : State) L mc ms := by
      refine ⟨?_, q2, q3, q4, q5, q6⟩
      obtain ⟨t, ht, -⟩ := State.frames_cons hr
      show ({ U with heap := s₂.heap, slotsUsed := s₂.slotsUsed } : State) = { U.setFrames U.frames with heap := s₂.heap, slotsUsed := s₂.slotsUsed }
      rw [State.setFrames_self ht]
    subst hg
    refine Or.inr ⟨q, ⟨(({ U with heap := s₂.heap, slotsUsed := s₂.slotsUsed } : State).setVm s₂.vm), Ls ++ L, c0 + mc, s0 + ms⟩,
      ⟨X.admits, X.cas, X.clock, X.frames, X.room, X.hears, X.method, X.code, (X.here.setHeapUsed s₂.heap s₂.slotsUsed).setVm hW'.alike, X.tail, State.WarmedH.trans X.warmed hW', X.limits, X.bytes, X.same.trans (hsame.setVm s.vm)⟩,
      ⟨g, mk, s₂, L, E, ce, rfl, rfl, hx, hce, hcv, hcl, rfl, hL, rfl, rfl⟩, ?_⟩
    show Steps p.tables e below _ (((({ U with heap := s₂.heap, slotsUsed := s₂.slotsUsed } : State).setVm s₂.vm).setTop g).pushFrame (.throwing q))
    rw [← hs₂]
    exact hsteps
end Payer
section Calls
variable {p : Program} {l : Launch} {e : Env} {R : Room} {s : State} {m : MethodId} {args : Array Value} {below : List Frame} {meth : Method} {c : Code} {T : State} {locs : List Loc} {cells slots : Nat}
theorem vx_callV (X : Stand p l e R s m args below meth c T locs cells slots) (hexec : p.tables.exec = Jvm.exec) {own C : String} {index : Nat} {y : MethodName} {bytes : ByteArray} {maxL : Nat} {ret : Option FieldType}
    (hown : s.vm.findClass own = some m.cls) (hlink : (Cond.methodLink own index y).before args s = true) (hinst : (Cond.instanceMethod y).before args s = true) (hsel : (Cond.selects C y y).before args s = true)
    (hcode : (Cond.code y bytes maxL ret).before args s = true) (hy : y.cls ≠ "java/lang/invoke/MethodHandle" ∧ y.cls ≠ "java/lang/invoke/VarHandle")
    {W9 : Nat} {Pre : Pt → Array Value → Prop} {Post : Pt → Array Value → Option Value → Pt → Prop} {PostX : Pt → Array Value → Addr → Pt → Prop} (hK : vx_Back l R p e below s args y 3 W9 Pre Post PostX)
    {b : Addr} {cellB : Cell} (hcell : T.heap[b]? = some cellB) (hobj : cellB.vm.isStatics = false) (hcls : s.vm.findClass C = some cellB.cls)
    {g : JFrame} (hg : g.method = m) (hsize : g.locals.size = c.maxLocals) {argsL rest : List Value} (hlen : ∀ sig, parseMethodDescriptor y.desc = some sig → argsL.length = sig.parameters.length)
    (hstack : g.stack = argsL.reverse ++ .ref b :: rest) (hW : 2 * g.monitorRoom + (rest.map fun v => v.category).sum ≤ W9) (hdg : decode c.code g.pc = .ok (.invokevirtual index, 3))
    (hpre : ∀ vm₁, s.WarmedH vm₁ → Pre ⟨T.setVm vm₁, locs, cells, slots⟩ (Value.ref b :: argsL).toArray) :
    (∃ (v : Option Value) (vm₁ : Vm) (B : Pt), s.WarmedH vm₁ ∧ Stand p l e R s m args below meth c B.U B.locs B.cells B.slots ∧ Post ⟨T.setVm vm₁, locs, cells, slots⟩ (Value.ref b :: argsL).toArray v B ∧
      ∀ target, Steps p.tables e below (B.U.setTop { g with pc := g.pc + 3, stack := v.toList ++ rest }) target → Steps p.tables e below (T.setTop g) target) ∨
    (∃ (q : Addr) (vm₁ : Vm) (B : Pt), s.WarmedH vm₁ ∧ Stand p l e R s m args below meth c B.U B.locs B.cells B.slots ∧ PostX ⟨T.setVm vm₁, locs, cells, slots⟩ (Value.ref b :: argsL).toArray q B ∧
      Steps p.tables e below (T.setTop g) ((B.U.setTop { g with stack := rest }).pushFrame (.throwing q))) := by
  obtain ⟨mk, methM, hnamed, hmethM, hstM, habM⟩ := Cond.instanceMethod_spec hinst
  obtain ⟨methM', cM, hmethM', -, -, -, -, -, -, hsigM⟩ := Cond.code_spec hnamed hcode
  cases hmethM.symm.trans hmethM'
  obtain ⟨c2, r2, m2, q1, q2, q3, q4, kP, hkP, hkPi⟩ := Cond.selects_spec hsel
  cases hcls.symm.trans q1
  cases (State.methodFound?_of_named hnamed hy).symm.trans q2
  cases hnamed.symm.trans q3
  have hselP : selectMethod e.platform s.vm cellB.cls mk = .method mk := by rw [Launch.admits_selectMethod X.admits]; exact q4
  obtain ⟨vm₁, X₁, hstep₁⟩ := X.invokevirtual hexec hown hlink hnamed hmethM hstM hkP hkPi hy (a := b) (cell := cellB) hcell
    (fun z h => by rw [h] at hobj; cases hobj) hselP hmethM habM hkP hkPi (g := g) hg (argsL := argsL) (rest := rest) (hlen _ hsigM) hstack hdg
  rcases hK m meth c ⟨T.setVm vm₁, locs, cells, slots⟩ { g with stack := rest } (.invokevirtual index) mk (Value.ref b :: argsL).toArray X₁ hg hsize hdg hW (X₁.named hnamed) (hpre vm₁ X₁.warmed) with ⟨v, B, X', hpost, hsteps⟩ | ⟨q, B, X', hpost, hsteps⟩
  · exact Or.inl ⟨v, vm₁, B, X₁.warmed, X', hpost, fun target h => hstep₁ _ fun acts => by rw [doInvoke_state]; exact hsteps.trans h⟩
  · exact Or.inr ⟨q, vm₁, B, X₁.warmed, X', hpost, hstep₁ _ fun acts => by rw [doInvoke_state]; exact hsteps⟩
theorem vx_callS (X : Stand p l e R s m args below meth c T locs cells slots) (hexec : p.tables.exec = Jvm.exec) {own : String} {index : Nat} {y : MethodName} {bytes : ByteArray} {maxL : Nat} {ret : Option FieldType}
    (hown : s.vm.findClass own = some m.cls) (hlink : (Cond.methodLink own index y).before args s = true) (hstat : (Cond.static y).before args s = true) (hinit : (Cond.initialized y.cls).before args s = true)
    (hcode : (Cond.code y bytes maxL ret).before args s = true) (hy : y.cls ≠ "java/lang/invoke/MethodHandle" ∧ y.cls ≠ "java/lang/invoke/VarHandle")
    {W9 : Nat} {Pre : Pt → Array Value → Prop} {Post : Pt → Array Value → Option Value → Pt → Prop} {PostX : Pt → Array Value → Addr → Pt → Prop} (hK : vx_Back l R p e below s args y 3 W9 Pre Post PostX)
    {g : JFrame} (hg : g.method = m) (hsize : g.locals.size = c.maxLocals) {argsL rest : List Value} (hlen : ∀ sig, parseMethodDescriptor y.desc = some sig → argsL.length = sig.parameters.length)
    (hstack : g.stack = argsL.reverse ++ rest) (hW : 2 * g.monitorRoom + (rest.map fun v => v.category).sum ≤ W9) (hdg : decode c.code g.pc = .ok (.invokestatic index, 3))
    (hpre : ∀ vm₁, s.WarmedH vm₁ → Pre ⟨T.setVm vm₁, locs, cells, slots⟩ argsL.toArray) :
    (∃ (v : Option Value) (vm₁ : Vm) (B : Pt), s.WarmedH vm₁ ∧ Stand p l e R s m args below meth c B.U B.locs B.cells B.slots ∧ Post ⟨T.setVm vm₁, locs, cells, slots⟩ argsL.toArray v B ∧
      ∀ target, Steps p.tables e below (B.U.setTop { g with pc := g.pc + 3, stack := v.toList ++ rest }) target → Steps p.tables e below (T.setTop g) target) ∨
    (∃ (q : Addr) (vm₁ : Vm) (B : Pt), s.WarmedH vm₁ ∧ Stand p l e R s m args below meth c B.U B.locs B.cells B.slots ∧ PostX ⟨T.setVm vm₁, locs, cells, slots⟩ argsL.toArray q B ∧
      Steps p.tables e below (T.setTop g) ((B.U.setTop { g with stack := rest }).pushFrame (.throwing q))) := by
  obtain ⟨mk, hnamed⟩ := Cond.code_named hcode
  obtain ⟨methM, cM, hmethM, -, -, -, -, -, -, hsigM⟩ := Cond.code_spec hnamed hcode
  have hstatic : methM.isStatic = true := Cond.static_spec hnamed hmethM hstat
  obtain ⟨kP, hkP, -⟩ := className_of_methodNamed hnamed
  have hinitP : kP.init = .initialized := Cond.initialized_spec (findClass_of_methodNamed hnamed) hkP hinit
  obtain ⟨vm₁, X₁, hstep₁⟩ := X.invokestatic hexec hown hlink hnamed hmethM hstatic hkP hinitP hy (g := g) hg (argsL := argsL) (rest := rest) (hlen _ hsigM) hstack hdg
  rcases hK m meth c ⟨T.setVm vm₁, locs, cells, slots⟩ { g with stack := rest } (.invokestatic index) mk argsL.toArray X₁ hg hsize hdg hW (X₁.named hnamed) (hpre vm₁ X₁.warmed) with ⟨v, B, X', hpost, hsteps⟩ | ⟨q, B, X', hpost, hsteps⟩
  · exact Or.inl ⟨v, vm₁, B, X₁.warmed, X', hpost, fun target h => hstep₁ _ fun acts => by rw [doInvoke_state]; exact hsteps.trans h⟩
  · exact Or.inr ⟨q, vm₁, B, X₁.warmed, X', hpost, hstep₁ _ fun acts => by rw [doInvoke_state]; exact hsteps⟩
end Calls
theorem vx_cls {s : State} {T : State} {vm₁ : Vm} {E : String} {k : ClassId} (hW : s.WarmedH vm₁) (h : (T.setVm vm₁).vm.findClass E = some k) : s.vm.findClass E = some k := by
  have h1 : vm₁.findClass E = some k := h
  rw [hW.alike.findClass] at h1
  exact h1
def vx_W (p : Program) (l : Launch) (e : Env) (R : Room) (s : State) (m : MethodId) (args : Array Value) (below : List Frame) (meth : Method) (c : Code) (H : Heap) (locs : List Loc) (cells slots : Nat) (Q : State → Prop) (g : JFrame) (q : Addr) : Prop :=
  ∀ T : State, T.heap = H → Stand p l e R s m args below meth c T locs cells slots → ∃ t, Steps p.tables e below ((T.setTop g).pushFrame (.throwing q)) t ∧ Q t
def vx_Run (p : Program) (l : Launch) (e : Env) (R : Room) (s : State) (m : MethodId) (args : Array Value) (below : List Frame) (meth : Method) (c : Code) (H : Heap) (locs : List Loc) (cells slots mc ms : Nat) (g : JFrame) (rest : List Value) (Qa : State → Outcome → State → Prop) (XC : String → State → State → Prop) (free : Addr → Prop) : Prop :=
  ∀ T : State, T.heap = H → Stand p l e R s m args below meth c T locs cells slots →
    (∃ (v : Option Value) (st₀ t T' : State) (L : List Loc), st₀.heap = H ∧ Stand p l e R s m args below meth c T' (locs ++ L) (cells + mc) (slots + ms) ∧ (∀ q ∈ L, free q.base) ∧ T'.heap = t.heap ∧ T'.vm = t.vm ∧ Qa st₀ (.returned v) t ∧
      Goes p e below T g T' { g with pc := g.pc + 3, stack := v.toList ++ rest }) ∨
    (∃ (q : Addr) (st₀ t T' : State) (L : List Loc) (E : String) (ce : Cell), st₀.heap = H ∧ Stand p l e R s m args below meth c T' (locs ++ L) (cells + mc) (slots + ms) ∧ (∀ z ∈ L, free z.base) ∧ T'.heap = t.heap ∧ T'.vm = t.vm ∧ XC E st₀ t ∧ t.heap[q]? = some ce ∧ ce.vm = .none ∧ s.vm.findClass E = some ce.cls ∧
      Steps p.tables e below (T.setTop g) ((T'.setTop { g with stack := rest }).pushFrame (.throwing q)))
def vx_X {S : Type} (px : S → Prop) (B : String → S → State → Prop) (A : Nat → Prop) : String → State → State → Prop := fun E st t => ∃ u : S, px u ∧ B E u t ∧ va_F A st t
section Runs
variable {p : Program} {l : Launch} {e : Env} {R : Room} {s : State} {m : MethodId} {args : Array Value} {below : List Frame} {meth : Method} {c : Code} {H : Heap} {locs : List Loc} {cells slots : Nat}
variable {y : MethodName} {bytes cc : ByteArray} {maxL nL mc ms n index : Nat} {ret : Option FieldType} {ws : List Cond} {rm : Room} {Pc : Array Value → State → Prop} {Qc : Array Value → State → Outcome → State → Prop} {XC : String → State → State → Prop} {free : Addr → Prop} {Ts : List Cond} {own C : String} {b : Addr} {As rest : List Value} {g : JFrame}
theorem vx_callBack (cb : CallB R s args own index y bytes maxL ret ws rm mc ms n) (hM : vx_Met l y ws rm Pc Qc XC mc ms free) (hbl : FrameBlind Pc) : vx_Back l R p e below s args y 3 8 (PreOf R mc ms Pc) (PostOf Qc mc ms free) (vx_Post XC mc ms free) := by
  obtain ⟨hrc, hrs, hfr, hlo, hws, hcw, -, hini, -⟩ := cb
  exact vx_back (bytes := bytes) (maxL := maxL) (ret := ret) hM hbl hrc hrs hfr hlo hws hcw (fun a' U hW => word_at hW (Or.inl (by first | rfl | simp [Cond.onTables, Cond.keeps, Cond.steady])) hini)
theorem vx_runV (S : CallFix p m c cc nL s args Ts own) (hM : vx_Met l y ws rm Pc Qc XC mc ms free) (cw : CallW R s args own C index y bytes maxL ret ws rm mc ms n) (hp : PreV s H C b Pc As)
    (hg : g.method = m) (hn : As.length = n) (hsize : g.locals.size = nL) (hstack : g.stack = As.reverse ++ .ref b :: rest) (hW : 2 * g.monitorRoom + (rest.map fun v => v.category).sum ≤ 8) (hdg : decode cc g.pc = .ok (.invokevirtual index, 3)) (hf : cells + mc ≤ R.cells ∧ slots + ms ≤ R.slots) :
    vx_Run p l e R s m args below meth c H locs cells slots mc ms g rest (Qc (Value.ref b :: As).toArray) XC free := by
  have hK : vx_Back l R p e below s args y 3 8 (PreOf R mc ms Pc) (PostOf Qc mc ms free) (vx_Post XC mc ms free) := vx_callBack cw.1 hM hp.1
  obtain ⟨⟨-, -, -, -, -, -, hcode, -, hy, hlen, hl⟩, hin, hse⟩ := cw
  obtain ⟨hx, hb, hml, ho, -⟩ := S
  obtain ⟨-, ⟨cellB, hcB, hoB, hclB⟩, hPc⟩ := hp
  intro T hT X
  rcases vx_callV X hx (C := C) (bytes := bytes) (maxL := maxL) (ret := ret) ho hl hin hse hcode hy hK (by rw [hT]; exact hcB) hoB hclB hg (hsize.trans hml.symm) (argsL := As) (rest := rest) (fun sig h => hn.trans (hlen sig h)) hstack hW (by rw [hb]; exact hdg)
    (fun vm₁ hW₁ => ⟨hf.1, hf.2, hPc (T.setVm vm₁) hT hW₁⟩) with ⟨v, vm₁, ⟨U', l2, c2, s2⟩, hW₁, X', ⟨g', mk, t, L, e1, e2, hq, h1, hL, h2, h3⟩, st⟩ | ⟨q, vm₁, ⟨U', l2, c2, s2⟩, hW₁, X', ⟨g', mk, t, L, E, ce, e1, e2, hq, hce, hcv, hcl, h1, hL, h2, h3⟩, st⟩
  · dsimp only [Pt.U, Pt.locs, Pt.cells, Pt.slots] at X' e1 e2 h1 h2 h3 st
    subst h1; subst h2; subst h3
    exact Or.inl ⟨v, (T.setVm vm₁).calling g' mk (Value.ref b :: As).toArray, t, U', L, hT, X', hL, e1, e2, hq, st⟩
  · dsimp only [Pt.U, Pt.locs, Pt.cells, Pt.slots] at X' e1 e2 h1 h2 h3 st hcl
    subst h1; subst h2; subst h3
    exact Or.inr ⟨q, (T.setVm vm₁).calling g' mk (Value.ref b :: As).toArray, t, U', L, E, ce, hT, X', hL, e1, e2, hq, hce, hcv, vx_cls hW₁ hcl, st⟩
theorem vx_runS (S : CallFix p m c cc nL s args Ts own) (hM : vx_Met l y ws rm Pc Qc XC mc ms free) (cw : CallB R s args own index y bytes maxL ret ws rm mc ms n ∧ (Cond.static y).before args s = true) (hp : PreS s H Pc As)
    (hg : g.method = m) (hn : As.length = n) (hsize : g.locals.size = nL) (hstack : g.stack = As.reverse ++ rest) (hW : 2 * g.monitorRoom + (rest.map fun v => v.category).sum ≤ 8) (hdg : decode cc g.pc = .ok (.invokestatic index, 3)) (hf : cells + mc ≤ R.cells ∧ slots + ms ≤ R.slots) :
    vx_Run p l e R s m args below meth c H locs cells slots mc ms g rest (Qc As.toArray) XC free := by
  have hK : vx_Back l R p e below s args y 3 8 (PreOf R mc ms Pc) (PostOf Qc mc ms free) (vx_Post XC mc ms free) := vx_callBack cw.1 hM hp.1
  obtain ⟨⟨-, -, -, -, -, -, hcode, hini, hy, hlen, hl⟩, hstt⟩ := cw
  obtain ⟨hx, hb, hml, ho, -⟩ := S
  intro T hT X
  rcases vx_callS X hx (bytes := bytes) (maxL := maxL) (ret := ret) ho hl hstt hini hcode hy hK hg (hsize.trans hml.symm) (argsL := As) (rest := rest) (fun sig h => hn.trans (hlen sig h)) hstack hW (by rw [hb]; exact hdg)
    (fun vm₁ hW₁ => ⟨hf.1, hf.2, hp.2 (T.setVm vm₁) hT hW₁⟩) with ⟨v, vm₁, ⟨U', l2, c2, s2⟩, hW₁, X', ⟨g', mk, t, L, e1, e2, hq, h1, hL, h2, h3⟩, st⟩ | ⟨q, vm₁, ⟨U', l2, c2, s2⟩, hW₁, X', ⟨g', mk, t, L, E, ce, e1, e2, hq, hce, hcv, hcl, h1, hL, h2, h3⟩, st⟩
  · dsimp only [Pt.U, Pt.locs, Pt.cells, Pt.slots] at X' e1 e2 h1 h2 h3 st
    subst h1; subst h2; subst h3
    exact Or.inl ⟨v, (T.setVm vm₁).calling g' mk As.toArray, t, U', L, hT, X', hL, e1, e2, hq, st⟩
  · dsimp only [Pt.U, Pt.locs, Pt.cells, Pt.slots] at X' e1 e2 h1 h2 h3 st hcl
    subst h1; subst h2; subst h3
    exact Or.inr ⟨q, (T.setVm vm₁).calling g' mk As.toArray, t, U', L, E, ce, hT, X', hL, e1, e2, hq, hce, hcv, vx_cls hW₁ hcl, st⟩
end Runs
section Rows
variable {p : Program} {l : Launch} {e : Env} {R : Room} {s : State} {m : MethodId} {args : Array Value} {below : List Frame} {meth : Method} {c : Code} {H : Heap} {locs : List Loc} {cells slots : Nat} {Q : State → Prop}
variable {mc ms : Nat} {free : Addr → Prop} {A0 A1 : Nat → Prop} {H0 : Heap} {a : Array Value} {pc : Nat} {ls : Array Slot} {st0 rest : List Value}
theorem vx_keep {st₀ t T' : State} {L : List Loc} (h0 : st₀.heap = H) (e1 : T'.heap = t.heap) (hS : va_S A0 H0 H locs) (hA : ∀ q, q < H.size → A1 q → A0 q) (hf : ∀ q, free q → A0 q) (hL : ∀ q ∈ L, free q.base) (hF : va_F A1 st₀ t) :
    H.size ≤ T'.heap.size ∧ (∀ q : Nat, q < H.size → ¬ A1 q → T'.heap[q]? = H[q]?) ∧ va_S A0 H0 T'.heap (locs ++ L) := by
  obtain ⟨hz, hk⟩ := hF
  rw [h0] at hz hk
  exact ⟨by rw [e1]; exact hz, fun q h1 h2 => by rw [e1]; exact hk q h1 h2,
    ⟨Nat.le_trans hS.1 (by rw [e1]; exact hz), fun q h1 h2 => by rw [e1, hk q (Nat.lt_of_lt_of_le h1 hS.1) (fun z => h2 (hA q (Nat.lt_of_lt_of_le h1 hS.1) z))]; exact hS.2.1 q h1 h2, fun q hq => by
      rcases List.mem_append.mp hq with h | h
      · exact hS.2.2 q h
      · exact hf _ (hL q h)⟩⟩
theorem vx_calli {S SX : Type} {post : Int32 → S → Prop} {px : SX → Prop} {B : S → State → Prop} {BX : String → SX → State → Prop} {AX : Nat → Prop} (hr : vx_Run p l e R s m args below meth c H locs cells slots mc ms (F0 m pc ls st0) rest (va_Qi post B A1 a) (vx_X px BX AX) free) (hS : va_S A0 H0 H locs) (hA : ∀ q, q < H.size → A1 q → A0 q) (hf : ∀ q, free q → A0 q) (hAX : ∀ q, q < H.size → AX q → A0 q)
    (kx : ∀ (E : String) (ce : Cell) (q9 : Addr) (u : SX) (t : State) (H1 : Heap) (locs1 : List Loc), t.heap = H1 → s.vm.Alike t.vm → px u → BX E u t → H.size ≤ H1.size → (∀ q : Nat, q < H.size → ¬ AX q → H1[q]? = H[q]?) → va_S A0 H0 H1 locs1 → H1[q9]? = some ce → ce.vm = .none → s.vm.findClass E = some ce.cls → vx_W p l e R s m args below meth c H1 locs1 (cells + mc) (slots + ms) Q (F0 m pc ls rest) q9)
    (kk : ∀ (r : Int32) (u : S) (t : State) (H1 : Heap) (locs1 : List Loc), t.heap = H1 → s.vm.Alike t.vm → post r u → B u t → H.size ≤ H1.size → (∀ q : Nat, q < H.size → ¬ A1 q → H1[q]? = H[q]?) → va_S A0 H0 H1 locs1 → W p l e R s m args below meth c H1 locs1 (cells + mc) (slots + ms) Q (F0 m (pc + 3) ls (.int r :: rest))) : W p l e R s m args below meth c H locs cells slots Q (F0 m pc ls st0) := by
  intro T hT X
  rcases hr T hT X with ⟨v, st₀, t, T', L, h0, X', hL, e1, e2, ⟨⟨r, u, hv, hp, hb⟩, hF⟩, st⟩ | ⟨q, st₀, t, T', L, E, ce, h0, X', hL, e1, e2, ⟨u, hp, hb, hF⟩, hce, hcv, hcl, st⟩
  · cases hv
    obtain ⟨k1, k2, k3⟩ := vx_keep h0 e1 hS hA hf hL hF
    obtain ⟨t2, a1, b1⟩ := kk r u t T'.heap (locs ++ L) e1.symm (by rw [← e2]; exact X'.warmed.alike) hp hb k1 k2 k3 T' rfl X'
    exact ⟨t2, st t2 a1, b1⟩
  · obtain ⟨k1, k2, k3⟩ := vx_keep h0 e1 hS hAX hf hL hF
    obtain ⟨t2, a1, b1⟩ := kx E ce q u t T'.heap (locs ++ L) e1.symm (by rw [← e2]; exact X'.warmed.alike) hp hb k1 k2 k3 (by rw [e1]; exact hce) hcv hcl T' rfl X'
    exact ⟨t2, st.trans a1, b1⟩
theorem vx_calll {S SX : Type} {post : Int64 → S → Prop} {px : SX → Prop} {B : S → State → Prop} {BX : String → SX → State → Prop} {AX : Nat → Prop} (hr : vx_Run p l e R s m args below meth c H locs cells slots mc ms (F0 m pc ls st0) rest (va_Ql post B A1 a) (vx_X px BX AX) free) (hS : va_S A0 H0 H locs) (hA : ∀ q, q < H.size → A1 q → A0 q) (hf : ∀ q, free q → A0 q) (hAX : ∀ q, q < H.size → AX q → A0 q)
    (kx : ∀ (E : String) (ce : Cell) (q9 : Addr) (u : SX) (t : State) (H1 : Heap) (locs1 : List Loc), t.heap = H1 → s.vm.Alike t.vm → px u → BX E u t → H.size ≤ H1.size → (∀ q : Nat, q < H.size → ¬ AX q → H1[q]? = H[q]?) → va_S A0 H0 H1 locs1 → H1[q9]? = some ce → ce.vm = .none → s.vm.findClass E = some ce.cls → vx_W p l e R s m args below meth c H1 locs1 (cells + mc) (slots + ms) Q (F0 m pc ls rest) q9)
    (kk : ∀ (r : Int64) (u : S) (t : State) (H1 : Heap) (locs1 : List Loc), t.heap = H1 → s.vm.Alike t.vm → post r u → B u t → H.size ≤ H1.size → (∀ q : Nat, q < H.size → ¬ A1 q → H1[q]? = H[q]?) → va_S A0 H0 H1 locs1 → W p l e R s m args below meth c H1 locs1 (cells + mc) (slots + ms) Q (F0 m (pc + 3) ls (.long r :: rest))) : W p l e R s m args below meth c H locs cells slots Q (F0 m pc ls st0) := by
  intro T hT X
  rcases hr T hT X with ⟨v, st₀, t, T', L, h0, X', hL, e1, e2, ⟨⟨r, u, hv, hp, hb⟩, hF⟩, st⟩ | ⟨q, st₀, t, T', L, E, ce, h0, X', hL, e1, e2, ⟨u, hp, hb, hF⟩, hce, hcv, hcl, st⟩
  · cases hv
    obtain ⟨k1, k2, k3⟩ := vx_keep h0 e1 hS hA hf hL hF
    obtain ⟨t2, a1, b1⟩ := kk r u t T'.heap (locs ++ L) e1.symm (by rw [← e2]; exact X'.warmed.alike) hp hb k1 k2 k3 T' rfl X'
    exact ⟨t2, st t2 a1, b1⟩
  · obtain ⟨k1, k2, k3⟩ := vx_keep h0 e1 hS hAX hf hL hF
    obtain ⟨t2, a1, b1⟩ := kx E ce q u t T'.heap (locs ++ L) e1.symm (by rw [← e2]; exact X'.warmed.alike) hp hb k1 k2 k3 (by rw [e1]; exact hce) hcv hcl T' rfl X'
    exact ⟨t2, st.trans a1, b1⟩
theorem vx_callf {S SX : Type} {post : UInt32 → S → Prop} {px : SX → Prop} {B : S → State → Prop} {BX : String → SX → State → Prop} {AX : Nat → Prop} (hr : vx_Run p l e R s m args below meth c H locs cells slots mc ms (F0 m pc ls st0) rest (va_Qf post B A1 a) (vx_X px BX AX) free) (hS : va_S A0 H0 H locs) (hA : ∀ q, q < H.size → A1 q → A0 q) (hf : ∀ q, free q → A0 q) (hAX : ∀ q, q < H.size → AX q → A0 q)
    (kx : ∀ (E : String) (ce : Cell) (q9 : Addr) (u : SX) (t : State) (H1 : Heap) (locs1 : List Loc), t.heap = H1 → s.vm.Alike t.vm → px u → BX E u t → H.size ≤ H1.size → (∀ q : Nat, q < H.size → ¬ AX q → H1[q]? = H[q]?) → va_S A0 H0 H1 locs1 → H1[q9]? = some ce → ce.vm = .none → s.vm.findClass E = some ce.cls → vx_W p l e R s m args below meth c H1 locs1 (cells + mc) (slots + ms) Q (F0 m pc ls rest) q9)
    (kk : ∀ (r : UInt32) (u : S) (t : State) (H1 : Heap) (locs1 : List Loc), t.heap = H1 → s.vm.Alike t.vm → post r u → B u t → H.size ≤ H1.size → (∀ q : Nat, q < H.size → ¬ A1 q → H1[q]? = H[q]?) → va_S A0 H0 H1 locs1 → W p l e R s m args below meth c H1 locs1 (cells + mc) (slots + ms) Q (F0 m (pc + 3) ls (.float r :: rest))) : W p l e R s m args below meth c H locs cells slots Q (F0 m pc ls st0) := by
  intro T hT X
  rcases hr T hT X with ⟨v, st₀, t, T', L, h0, X', hL, e1, e2, ⟨⟨r, u, hv, hp, hb⟩, hF⟩, st⟩ | ⟨q, st₀, t, T', L, E, ce, h0, X', hL, e1, e2, ⟨u, hp, hb, hF⟩, hce, hcv, hcl, st⟩
  · cases hv
    obtain ⟨k1, k2, k3⟩ := vx_keep h0 e1 hS hA hf hL hF
    obtain ⟨t2, a1, b1⟩ := kk r u t T'.heap (locs ++ L) e1.symm (by rw [← e2]; exact X'.warmed.alike) hp hb k1 k2 k3 T' rfl X'
    exact ⟨t2, st t2 a1, b1⟩
  · obtain ⟨k1, k2, k3⟩ := vx_keep h0 e1 hS hAX hf hL hF
    obtain ⟨t2, a1, b1⟩ := kx E ce q u t T'.heap (locs ++ L) e1.symm (by rw [← e2]; exact X'.warmed.alike) hp hb k1 k2 k3 (by rw [e1]; exact hce) hcv hcl T' rfl X'
    exact ⟨t2, st.trans a1, b1⟩
theorem vx_calld {S SX : Type} {post : UInt64 → S → Prop} {px : SX → Prop} {B : S → State → Prop} {BX : String → SX → State → Prop} {AX : Nat → Prop} (hr : vx_Run p l e R s m args below meth c H locs cells slots mc ms (F0 m pc ls st0) rest (va_Qd post B A1 a) (vx_X px BX AX) free) (hS : va_S A0 H0 H locs) (hA : ∀ q, q < H.size → A1 q → A0 q) (hf : ∀ q, free q → A0 q) (hAX : ∀ q, q < H.size → AX q → A0 q)
    (kx : ∀ (E : String) (ce : Cell) (q9 : Addr) (u : SX) (t : State) (H1 : Heap) (locs1 : List Loc), t.heap = H1 → s.vm.Alike t.vm → px u → BX E u t → H.size ≤ H1.size → (∀ q : Nat, q < H.size → ¬ AX q → H1[q]? = H[q]?) → va_S A0 H0 H1 locs1 → H1[q9]? = some ce → ce.vm = .none → s.vm.findClass E = some ce.cls → vx_W p l e R s m args below meth c H1 locs1 (cells + mc) (slots + ms) Q (F0 m pc ls rest) q9)
    (kk : ∀ (r : UInt64) (u : S) (t : State) (H1 : Heap) (locs1 : List Loc), t.heap = H1 → s.vm.Alike t.vm → post r u → B u t → H.size ≤ H1.size → (∀ q : Nat, q < H.size → ¬ A1 q → H1[q]? = H[q]?) → va_S A0 H0 H1 locs1 → W p l e R s m args below meth c H1 locs1 (cells + mc) (slots + ms) Q (F0 m (pc + 3) ls (.double r :: rest))) : W p l e R s m args below meth c H locs cells slots Q (F0 m pc ls st0) := by
  intro T hT X
  rcases hr T hT X with ⟨v, st₀, t, T', L, h0, X', hL, e1, e2, ⟨⟨r, u, hv, hp, hb⟩, hF⟩, st⟩ | ⟨q, st₀, t, T', L, E, ce, h0, X', hL, e1, e2, ⟨u, hp, hb, hF⟩, hce, hcv, hcl, st⟩
  · cases hv
    obtain ⟨k1, k2, k3⟩ := vx_keep h0 e1 hS hA hf hL hF
    obtain ⟨t2, a1, b1⟩ := kk r u t T'.heap (locs ++ L) e1.symm (by rw [← e2]; exact X'.warmed.alike) hp hb k1 k2 k3 T' rfl X'
    exact ⟨t2, st t2 a1, b1⟩
  · obtain ⟨k1, k2, k3⟩ := vx_keep h0 e1 hS hAX hf hL hF
    obtain ⟨t2, a1, b1⟩ := kx E ce q u t T'.heap (locs ++ L) e1.symm (by rw [← e2]; exact X'.warmed.alike) hp hb k1 k2 k3 (by rw [e1]; exact hce) hcv hcl T' rfl X'
    exact ⟨t2, st.trans a1, b1⟩
theorem vx_callv {S SX : Type} {post : S → Prop} {px : SX → Prop} {B : S → State → Prop} {BX : String → SX → State → Prop} {AX : Nat → Prop} (hr : vx_Run p l e R s m args below meth c H locs cells slots mc ms (F0 m pc ls st0) rest (va_Qv post B A1 a) (vx_X px BX AX) free) (hS : va_S A0 H0 H locs) (hA : ∀ q, q < H.size → A1 q → A0 q) (hf : ∀ q, free q → A0 q) (hAX : ∀ q, q < H.size → AX q → A0 q)
    (kx : ∀ (E : String) (ce : Cell) (q9 : Addr) (u : SX) (t : State) (H1 : Heap) (locs1 : List Loc), t.heap = H1 → s.vm.Alike t.vm → px u → BX E u t → H.size ≤ H1.size → (∀ q : Nat, q < H.size → ¬ AX q → H1[q]? = H[q]?) → va_S A0 H0 H1 locs1 → H1[q9]? = some ce → ce.vm = .none → s.vm.findClass E = some ce.cls → vx_W p l e R s m args below meth c H1 locs1 (cells + mc) (slots + ms) Q (F0 m pc ls rest) q9)
    (kk : ∀ (u : S) (t : State) (H1 : Heap) (locs1 : List Loc), t.heap = H1 → s.vm.Alike t.vm → post u → B u t → H.size ≤ H1.size → (∀ q : Nat, q < H.size → ¬ A1 q → H1[q]? = H[q]?) → va_S A0 H0 H1 locs1 → W p l e R s m args below meth c H1 locs1 (cells + mc) (slots + ms) Q (F0 m (pc + 3) ls (rest))) : W p l e R s m args below meth c H locs cells slots Q (F0 m pc ls st0) := by
  intro T hT X
  rcases hr T hT X with ⟨v, st₀, t, T', L, h0, X', hL, e1, e2, ⟨⟨u, hv, hp, hb⟩, hF⟩, st⟩ | ⟨q, st₀, t, T', L, E, ce, h0, X', hL, e1, e2, ⟨u, hp, hb, hF⟩, hce, hcv, hcl, st⟩
  · cases hv
    obtain ⟨k1, k2, k3⟩ := vx_keep h0 e1 hS hA hf hL hF
    obtain ⟨t2, a1, b1⟩ := kk u t T'.heap (locs ++ L) e1.symm (by rw [← e2]; exact X'.warmed.alike) hp hb k1 k2 k3 T' rfl X'
    exact ⟨t2, st t2 a1, b1⟩
  · obtain ⟨k1, k2, k3⟩ := vx_keep h0 e1 hS hAX hf hL hF
    obtain ⟨t2, a1, b1⟩ := kx E ce q u t T'.heap (locs ++ L) e1.symm (by rw [← e2]; exact X'.warmed.alike) hp hb k1 k2 k3 (by rw [e1]; exact hce) hcv hcl T' rfl X'
    exact ⟨t2, st.trans a1, b1⟩
theorem vx_catch {own name : String} {E : String} {ce : Cell} {q : Addr} (hown : s.vm.findClass own = some m.cls) (pre : List ExceptionTableEntry) (x : ExceptionTableEntry) (suf : List ExceptionTableEntry) (hsplit : c.exceptionTable.toList = pre ++ x :: suf)
    (hpass : ∀ z ∈ pre, covers z pc = false ∨ (z.catchType ≠ 0 ∧ ∃ nm : String, (Cond.classLink own z.catchType nm).before args s = true ∧ va_Nc E nm s)) (hx : covers x pc = true) (h0 : x.catchType ≠ 0)
    (hlink : (Cond.classLink own x.catchType name).before args s = true) (hcast : (Cond.castable E name).before args s = true) (hcell : H[q]? = some ce) (hv : ce.vm = .none) (hcl : s.vm.findClass E = some ce.cls)
    (kk : W p l e R s m args below meth c H locs cells slots Q (F0 m x.handlerPc ls [.ref q])) : vx_W p l e R s m args below meth c H locs cells slots Q (F0 m pc ls rest) q := by
  intro T hT X
  have hpl : e.platform.magicAccessors = ({} : Platform).magicAccessors := by rw [X.admits.platform]
  obtain ⟨c3, c4, hc3, hc4, hasg⟩ := Cond.castable_spec hcast
  cases Option.some.inj (hc3.symm.trans hcl)
  obtain ⟨c5, hc5, hcl5⟩ := Cond.classLink_spec hown hlink e.platform hpl
  cases Option.some.inj (hc4.symm.trans hc5)
  obtain ⟨vm', X', st⟩ := X.thenCaughtThrough q (g := F0 m pc ls rest) rfl (Steps.refl _) (by rw [hT]; exact hcell) (by rw [hv]; rfl) (by obtain ⟨k9, h9, -⟩ := Vm.findClass_spec hcl; exact ⟨k9, h9⟩) pre x suf hsplit
    (fun z hz => by
      rcases hpass z hz with h | ⟨hz0, nm, hl1, hn1⟩
      · exact Or.inl h
      · obtain ⟨c6, hc6, hcl6⟩ := Cond.classLink_spec hown hl1 e.platform hpl
        obtain ⟨a8, b8, h1, h2, h3⟩ := hn1
        cases Option.some.inj (h1.symm.trans hcl)
        cases Option.some.inj (h2.symm.trans hc6)
        exact Or.inr ⟨hz0, _, hcl6, h3⟩) hx (Or.inr ⟨h0, c4, hcl5, hasg⟩)
  obtain ⟨t, a1, b1⟩ := kk (T.setVm vm') hT X'
  exact ⟨t, st.trans a1, b1⟩
end Rows
section Ends
variable {p : Program} {l : Launch} {e : Env} {R : Room} {s : State} {m : MethodId} {args : Array Value} {below : List Frame} {meth : Method} {c : Code} {H : Heap} {locs : List Loc} {cells slots : Nat} {Q : State → Prop}
variable {mc ms : Nat} {free : Addr → Prop} {A0 A1 : Nat → Prop} {H0 : Heap} {a : Array Value} {ls : Array Slot} {st0 rest : List Value}
variable {Qc : Array Value → State → Outcome → State → Prop} {XC : String → State → State → Prop}
def vx_MQ (below : List Frame) (Qc : Array Value → State → Outcome → State → Prop) (XC : String → State → State → Prop) (a : Array Value) (s : State) (mc ms : Nat) (free : Addr → Prop) : State → Prop := fun t =>
  ∃ o, t.status = .running ∧ Ended t below o ∧ vx_Q Qc XC mc ms free a s o t
theorem vx_ret {g : JFrame} {mc ms : Nat} (k : W p l e R s m args below meth c H locs cells slots (MQ below Qc args s mc ms free) g) : W p l e R s m args below meth c H locs cells slots (vx_MQ below Qc XC args s mc ms free) g := by
  intro T hT X
  obtain ⟨t, a1, o, b1, b2, b3, b4⟩ := k T hT X
  exact ⟨t, a1, o, b1, b2, Or.inl ⟨b3, b4⟩⟩
theorem vx_widen {g : JFrame} {q : Addr} {k n : Nat} (h1 : cells ≤ k) (h2 : slots ≤ n) (kk : vx_W p l e R s m args below meth c H locs k n Q g q) : vx_W p l e R s m args below meth c H locs cells slots Q g q := fun T hT X => kk T hT (stand_widen X h1 h2)
theorem vx_out {pc : Nat} {E : String} {ce : Cell} {q : Addr} {mc ms : Nat} (hout : ∀ x ∈ c.exceptionTable.toList, covers x pc = false) (hlocks : meth.locks = false) (hcell : H[q]? = some ce) (hv : ce.vm = .none) (hcl : s.vm.findClass E = some ce.cls)
    (hx : ∀ t : State, t.heap = H → s.vm.Alike t.vm → XC E s t) (hf : ∀ z ∈ locs, free z.base) (hc : cells ≤ mc) (hs : slots ≤ ms) :
    vx_W p l e R s m args below meth c H locs cells slots (vx_MQ below Qc XC args s mc ms free) (F0 m pc ls rest) q := by
  intro T hT X
  obtain ⟨st1, hrun, hend, hW, hsm⟩ := X.leaveThrown q (g := F0 m pc ls rest) rfl rfl rfl hout hlocks
  have hcell9 : (T.setFrames (.throwing q :: below)).heap[q]? = some ce := by
    show T.heap[q]? = some ce
    rw [hT]; exact hcell
  exact ⟨_, st1, .threw q, hrun, hend, Or.inr ⟨q, rfl, E, ce, locs, hx _ hT hW.alike, hcell9, hv, hcl, hW, hsm.mono hc hs, hf⟩⟩
theorem vx_frame {U : State} {k n : Nat} (h : s.sameButNew ({ U with vm := s.vm } : State) locs k n) : s.heap.size ≤ U.heap.size ∧ ∀ q : Nat, q < s.heap.size → (∀ z ∈ locs, z.base ≠ q) → U.heap[q]? = s.heap[q]? := by
  obtain ⟨-, h2, -, -, -, h6⟩ := h
  refine ⟨h2, fun q hq hz => ?_⟩
  obtain ⟨c9, e1, e2, e3, e4⟩ := h6 q _ (Array.getElem?_eq_getElem hq)
  have hs : c9.slots = (s.heap[q]).slots := Array.ext_getElem? fun i => e4 i fun hm => hz _ hm rfl
  have h9 : c9 = s.heap[q] := by
    rw [hs] at e2
    exact e2
  have e5 : U.heap[q]? = some c9 := e1
  rw [e5, h9, Array.getElem?_eq_getElem hq]
def vx_no (w : Cond) : Bool := decide (w ≠ .isRef (.static Bundle.tN "UNASSIGNED_STACK" Bundle.steD)) && decide (w ≠ .isRef (.static Bundle.tN "SUPPRESSED_SENTINEL" Bundle.listD)) && decide (w ≠ .laysStatic Bundle.tN "UNASSIGNED_STACK" Bundle.steD) && decide (w ≠ .laysStatic Bundle.tN "SUPPRESSED_SENTINEL" Bundle.listD)
def vx_at0 (own : String) (ic : Nat) (X : String) (names : List String) : List Cond := (Bundle.ownAtoms0 own ic X names).filter vx_no
def vx_atS (own : String) (ic : Nat) (X : String) (names : List String) : List Cond := (Bundle.ownAtoms own ic X names).filter vx_no
def vx_ot (w : Cond) : Bool := w.onTables || goodWord w
theorem vx_ot_at {args a' : Array Value} {s U : State} {w : Cond} (hW : s.WarmedH U.vm) (hvm : s.vm = U.vm) (hg : vx_ot w = true) (h : w.before args s = true) : w.before a' U = true := by
  simp only [vx_ot, Bool.or_eq_true] at hg
  rcases hg with hg | hg
  · exact va_tabs hg hvm h
  · exact word_at hW (good_of_word hg) h
theorem vx_hat {args : Array Value} {s : State} {L B : List Cond} (h1 : ∀ w ∈ L.filter goodWord, w.before args s = true) (h2 : ∀ w ∈ L.filter (fun w => !goodWord w), w ∈ B) (h3 : ∀ w ∈ B, w.before args s = true) : ∀ w ∈ L, w.before args s = true := by
  intro w hw
  by_cases g : goodWord w = true
  · exact h1 w (List.mem_filter.mpr ⟨hw, g⟩)
  · refine h3 w (h2 w (List.mem_filter.mpr ⟨hw, ?_⟩))
    show (!goodWord w) = true
    cases hgw : goodWord w
    · rfl
    · exact absurd hgw g
theorem vx_c {args : Array Value} {s : State} {w : Cond} {B : List Cond} (h : w.before args s = true) (t : ∀ w ∈ B, w.before args s = true) : ∀ w' ∈ w :: B, w'.before args s = true := fun w' h' => (List.mem_cons.mp h').elim (fun e => by rw [e]; exact h) (t w')
theorem vx_n {args : Array Value} {s : State} : ∀ w ∈ ([] : List Cond), w.before args s = true := fun _ h => nomatch h
theorem vx_own {args : Array Value} {s : State} {L : List Cond} (h1 : ∀ w ∈ L.filter vx_no, w.before args s = true)
    (hU : (Cond.isRef (.static Bundle.tN "UNASSIGNED_STACK" Bundle.steD)).before args s = true) (hN : (Cond.isRef (.static Bundle.tN "SUPPRESSED_SENTINEL" Bundle.listD)).before args s = true)
    (lU : (Cond.laysStatic Bundle.tN "UNASSIGNED_STACK" Bundle.steD).before args s = true) (lN : (Cond.laysStatic Bundle.tN "SUPPRESSED_SENTINEL" Bundle.listD).before args s = true) : ∀ w ∈ L, w.before args s = true := by
  intro w hw
  by_cases e1 : w = .isRef (.static Bundle.tN "UNASSIGNED_STACK" Bundle.steD)
  · rw [e1]; exact hU
  · by_cases e2 : w = .isRef (.static Bundle.tN "SUPPRESSED_SENTINEL" Bundle.listD)
    · rw [e2]; exact hN
    · by_cases e3 : w = .laysStatic Bundle.tN "UNASSIGNED_STACK" Bundle.steD
      · rw [e3]; exact lU
      · by_cases e4 : w = .laysStatic Bundle.tN "SUPPRESSED_SENTINEL" Bundle.listD
        · rw [e4]; exact lN
        · exact h1 w (List.mem_filter.mpr ⟨hw, by unfold vx_no; rw [decide_eq_true e1, decide_eq_true e2, decide_eq_true e3, decide_eq_true e4]; rfl⟩)
def vx_L (C n d : String) (A : Nat → Prop) (U : State) (H : Heap) : Prop := ∃ (c : ClassId) (k : Class) (i : Nat) (f : Field) (a : Nat) (cell : Cell), U.vm.findClass C = some c ∧ U.fieldFound? C n d = some (c, k, i, f) ∧ f.isStatic = true ∧ k.statics = some a ∧ H[a]? = some cell ∧ cell.vm.isStatics = true ∧ cell.cls = c ∧ f.slot < cell.slots.size ∧ k.staticTypes[f.slot]? = some f.type ∧ ¬ A a
theorem vx_L.moved {C n d : String} {A : Nat → Prop} {u U : State} {H : Heap} (hvm : u.vm.Alike U.vm) (h : vx_L C n d A u H) : vx_L C n d A U H := by
  obtain ⟨c, k, i, f, a, cell, h1, h2, h3, h4, h5, h6, h7, h8, h9, h10⟩ := h
  obtain ⟨k', hi', he⟩ := State.fieldFound?_setVm hvm h2
  exact ⟨c, k', i, f, a, cell, by rw [hvm.findClass]; exact h1, hi', h3, by rw [he]; exact h4, h5, h6, h7, h8, by rw [he]; exact h9, h10⟩
theorem vx_L.kept {C n d : String} {A : Nat → Prop} {U : State} {H H1 : Heap} (h : vx_L C n d A U H) (hq : ∀ a : Nat, a < H.size → ¬ A a → H1[a]? = H[a]?) : vx_L C n d A U H1 := by
  obtain ⟨c, k, i, f, a, cell, h1, h2, h3, h4, h5, h6, h7, h8, h9, h10⟩ := h
  exact ⟨c, k, i, f, a, cell, h1, h2, h3, h4, by rw [hq a (Array.getElem?_eq_some_iff.mp h5).1 h10]; exact h5, h6, h7, h8, h9, h10⟩
theorem vx_L.narrow {C n d : String} {A B : Nat → Prop} {U : State} {H : Heap} (h : vx_L C n d A U H) (hAB : ∀ q, B q → A q) : vx_L C n d B U H := by
  obtain ⟨c, k, i, f, a, cell, h1, h2, h3, h4, h5, h6, h7, h8, h9, h10⟩ := h
  exact ⟨c, k, i, f, a, cell, h1, h2, h3, h4, h5, h6, h7, h8, h9, fun z => h10 (hAB _ z)⟩
theorem vx_L.word {C n d : String} {A : Nat → Prop} {s : State} {args : Array Value} (h : vx_L C n d A s s.heap) : (Cond.laysStatic C n d).before args s = true := by
  obtain ⟨c, k, i, f, a, cell, h1, h2, h3, h4, h5, h6, h7, h8, h9, -⟩ := h
  show (Cond.laysStatic C n d).holds args s none s [] = true
  exact Cond.laysStatic_of h1 h2 h3 h4 h5 h6 h7 h8 h9
def vx_Zq (C n d : String) (A : Nat → Prop) (U : State) (H : Heap) : Prop := va_Zq C n d A U H ∧ vx_L C n d A U H
theorem vx_Zq.moved {C n d : String} {A : Nat → Prop} {u U : State} {H : Heap} (hvm : u.vm.Alike U.vm) (h : vx_Zq C n d A u H) : vx_Zq C n d A U H := ⟨va_Zq.moved hvm h.1, vx_L.moved hvm h.2⟩
theorem vx_Zq.kept {C n d : String} {A : Nat → Prop} {U : State} {H H1 : Heap} (h : vx_Zq C n d A U H) (hq : ∀ a : Nat, a < H.size → ¬ A a → H1[a]? = H[a]?) : vx_Zq C n d A U H1 := ⟨va_Zq.kept h.1 hq, vx_L.kept h.2 hq⟩
theorem vx_Zq.narrow {C n d : String} {A B : Nat → Prop} {U : State} {H : Heap} (h : vx_Zq C n d A U H) (hAB : ∀ q, B q → A q) : vx_Zq C n d B U H := ⟨va_Zq.narrow h.1 hAB, vx_L.narrow h.2 hAB⟩
theorem vx_Zqof {args : Array Value} {s : State} {C n d : String} {A : Nat → Prop} (hl : (Cond.laysStatic C n d).before args s = true) (hini : (Cond.initialized C).before args s = true) (h : (Cond.isRef (.static C n d)).before args s = true) (hA : ∀ a : Nat, a < s.heap.size → ¬ A a) : vx_Zq C n d A s s.heap := by
  refine ⟨va_Zqof hl hini h hA, ?_⟩
  obtain ⟨c, k, i, f, a, cell, h1, h2, h3, h4, h5, h6, h7, h8, h9⟩ := Cond.laysStatic_spec hl
  exact ⟨c, k, i, f, a, cell, h1, h2, h3, h4, h5, h6, h7, h8, h9, hA a (Array.getElem?_eq_some_iff.mp h5).1⟩
theorem vx_isRef {C n d : String} {v : Value} {A : Nat → Prop} {s : State} {args : Array Value} (h : va_Z C n d v A s s.heap) (hv : v.isRef = true) : (Cond.isRef (.static C n d)).before args s = true := by
  obtain ⟨cf, kf, fi, f, a, cell, h1, h2, h3, h4, h5, h6, h7, -⟩ := h
  have he : (Term.static C n d).eval args s none [] s = some v := by
    simp [Term.eval, State.fieldNamed?, h1, h2, h4, h5, h6, h7]
  simp only [Cond.before, Cond.holds, Cond.value, he]
  cases v <;> simp_all [Value.isRef]
theorem vx_isRefq {C n d : String} {A : Nat → Prop} {s : State} {args : Array Value} (h : va_Zq C n d A s s.heap) : (Cond.isRef (.static C n d)).before args s = true := by
  rcases h with h | ⟨t, h⟩
  · exact vx_isRef h rfl
  · exact vx_isRef h rfl
theorem vx_rebase {T : State} (X : Stand p l e R s m args below meth c T locs cells slots) {R' : Room} (hf : R'.frames ≤ R.frames) (hl : R'.locals ≤ R.locals) (hc : cells + R'.cells ≤ R.cells) (hs : slots + R'.slots ≤ R.slots) :
    Stand p l e R' ((T.setVm s.vm).setFrames (.invoking m args :: below)) m args below meth c T [] 0 0 := by
  have htop : (T.setVm s.vm).topJava?.isSome := X.here.top
  have hF : ((T.setVm s.vm).setFrames (.invoking m args :: below)).frames = .invoking m args :: below := State.frames_setFrames _ (State.cur_lt_of_top htop)
  obtain ⟨g₀, hg0⟩ := Option.isSome_iff_exists.mp htop
  obtain ⟨r, hr⟩ := State.topJava?_eq_some.mp hg0
  have hl9 : e.platform.stackLimits (T.setVm s.vm).me = e.platform.stackLimits s.me := X.limits
  have hb9 : (T.setVm s.vm).me.stackBytes = s.me.stackBytes := X.bytes
  refine ⟨X.admits, X.cas, X.clock, hF, ?_, X.hears, X.method, X.code, X.here, X.tail, X.warmed, ?_, ?_, ?_⟩
  · have h := X.room
    have hU : ((T.setVm s.vm).setFrames (.invoking m args :: below)).localsInUse = s.localsInUse := by
      rw [State.localsInUse_invoking hF (meth := meth) (c := c) X.method X.code, State.localsInUse_invoking X.frames X.method X.code]
    simp only [State.hasRoom, Bool.and_eq_true, decide_eq_true_eq] at h ⊢
    obtain ⟨⟨⟨⟨h1, h2, h3, h4, h5, h6⟩, h7⟩, h8⟩, h9⟩ := h
    rw [X.frames, List.length_cons] at h2 h3
    have q1 := X.heapSize
    have q2 := X.used
    simp only [hF, hU, List.length_cons, State.stackLimits_setFrames, State.stackBytes_setFrames, hl9, hb9]
    refine ⟨⟨⟨⟨by omega, by omega, by omega, by omega, by omega, h6⟩, ?_⟩, ?_⟩, X.book⟩
    · show T.heap.size + R'.cells ≤ e.platform.maxCells
      omega
    · show T.slotsUsed + R'.slots ≤ e.platform.maxSlots
      omega
  · rw [State.stackLimits_setFrames]; rfl
  · rw [State.stackBytes_setFrames]; rfl
  · refine ⟨?_, Nat.le_refl _, Nat.le_refl _, ?_, ?_, fun a c9 h9 => ⟨c9, h9, rfl, rfl, fun _ _ => rfl⟩⟩
    · obtain ⟨t, ht, -⟩ := State.frames_cons hr
      show T.setVm s.vm = { ((T.setVm s.vm).setFrames (.invoking m args :: below)).setFrames (T.setVm s.vm).frames with heap := T.heap, slotsUsed := T.slotsUsed }
      rw [State.setFrames_setFrames, State.setFrames_self ht]
      rfl
    · show T.slotsUsed = T.slotsUsed + ((T.heap.toList.drop T.heap.size).map (·.slots.size)).sum
      rw [List.drop_eq_nil_of_le (Nat.le_of_eq Array.length_toList)]
      rfl
    · show ((T.heap.toList.drop T.heap.size).map (·.slots.size)).sum ≤ 0
      rw [List.drop_eq_nil_of_le (Nat.le_of_eq Array.length_toList)]
      exact Nat.le_refl _
theorem vx_throw0 {cc : ByteArray} {pc : Nat} (hexec : p.tables.exec = Jvm.exec) (hb : c.code = cc) (hl : l.stackTraces = false) {own cls : String} {names : List String} {ik ic mc ms : Nat} {A : Nat → Prop}
    (hown : s.vm.findClass own = some m.cls) (hcls : Bundle.fit cls = true) (hnames : ∀ n ∈ names, Bundle.fit n = true)
    (hk : (Cond.classLink own ik cls).before args s = true) (hini : (Cond.initialized cls).before args s = true) (hat : ∀ w ∈ vx_at0 own ic cls names, w.before args s = true)
    (hgood : ∀ w ∈ Cond.classLink own ik cls :: Cond.initialized cls :: vx_at0 own ic cls names, vx_ot w = true)
    (hU : vx_Zq Bundle.tN "UNASSIGNED_STACK" Bundle.steD A s s.heap) (hN : vx_Zq Bundle.tN "SUPPRESSED_SENTINEL" Bundle.listD A s s.heap) (hS : va_S A s.heap H locs) (hsize : ls.size = c.maxLocals)
    (d0 : decode cc pc = .ok (.new ik, 3)) (d3 : decode cc (pc + 3) = .ok (.dup, 1)) (d4 : decode cc (pc + 4) = .ok (.invokespecial ic, 3)) (d7 : decode cc (pc + 7) = .ok (.athrow, 1))
    (hout : ∀ x ∈ c.exceptionTable.toList, covers x (pc + 7) = false)
    (hRframes : names.length + 3 < R.frames) (hRlocals : (rest.map fun v => v.category).sum + (13 * (names.length + 1) + 42) ≤ R.locals) (hRcells : cells + 1 ≤ R.cells) (hRslots : slots + 6 ≤ R.slots) (hlocks : meth.locks = false)
    (hx : ∀ t : State, s.vm.Alike t.vm → H.size ≤ t.heap.size → (∀ q : Nat, q < H.size → t.heap[q]? = H[q]?) → XC cls s t)
    (hf : ∀ z ∈ locs, free z.base) (hc : cells + 1 ≤ mc) (hs : slots + 6 ≤ ms) :
    W p l e R s m args below meth c H locs cells slots (vx_MQ below Qc XC args s mc ms free) (F0 m pc ls rest) := by
  intro T hT X
  have htr : e.platform.stackTraces = false := (show e.platform.stackTraces = l.stackTraces by rw [X.admits.platform]).trans hl
  have Y := vx_rebase X (R' := { frames := R.frames, locals := R.locals, cells := 1, slots := 6 }) (Nat.le_refl _) (Nat.le_refl _) hRcells hRslots
  obtain ⟨s', hA⟩ : ∃ z, z = (T.setVm s.vm).setFrames (.invoking m args :: below) := ⟨_, rfl⟩
  rw [← hA] at Y
  have hvm : s'.vm = s.vm := by rw [hA]; rfl
  have hhp : s'.heap = H := by rw [hA]; exact hT
  have hW0 : s.WarmedH s'.vm := by rw [hvm]; exact State.WarmedH.refl s
  have hat' : ∀ w ∈ vx_at0 own ic cls names, w.before args s' = true := fun w hw => vx_ot_at hW0 hvm.symm (hgood w (List.mem_cons_of_mem _ (List.mem_cons_of_mem _ hw))) (hat w hw)
  have hk' : (Cond.classLink own ik cls).before args s' = true := vx_ot_at hW0 hvm.symm (hgood _ List.mem_cons_self) hk
  have hini' : (Cond.initialized cls).before args s' = true := vx_ot_at hW0 hvm.symm (hgood _ (List.mem_cons_of_mem _ List.mem_cons_self)) hini
  have hU' : vx_Zq Bundle.tN "UNASSIGNED_STACK" Bundle.steD A s' s'.heap := by rw [hhp]; exact vx_Zq.moved hW0.alike (hU.kept hS.2.1)
  have hN' : vx_Zq Bundle.tN "SUPPRESSED_SENTINEL" Bundle.listD A s' s'.heap := by rw [hhp]; exact vx_Zq.moved hW0.alike (hN.kept hS.2.1)
  have h : ∀ w ∈ Bundle.ownAtoms0 own ic cls names, w.before args s' = true := vx_own hat' (vx_isRefq hU'.1) (vx_isRefq hN'.1) hU'.2.word hN'.2.word
  have hown' : s'.vm.findClass own = some m.cls := by rw [hvm]; exact hown
  have hins : (Cond.instantiable cls 6).before args s' = true := h _ (by simp [Bundle.ownAtoms0])
  obtain ⟨vm₁, cX, kX, hfX, hkX, -, -, X₁, st1⟩ := Y.newCold hexec (own := own) (C := cls) (index := ik) (n := 6) hown' hk' hins hini'
    (g := F0 m pc ls rest) rfl (by rw [hb]; exact d0) (Nat.le_refl _) (Nat.le_refl _)
  generalize hT1 : (T.setVm vm₁).pushCell { cls := cX, slots := kX.instanceTypes.map defaultValue, vm := .none } = T1 at X₁ st1
  have hcat : (Value.ref T.heap.size).category = 1 := rfl
  have hcellA : T1.heap[T.heap.size]? = some (freshCell cX kX) := by rw [← hT1]; exact State.heap_pushCell_size _ _
  have d3' : decode c.code (pc + 3) = .ok (.dup, 1) := by rw [hb]; exact d3
  obtain ⟨U, hsteps, hrun, hend, hW, hsame, ce, hce, hO⟩ := X₁.ctorThrow0 hexec htr (own := own) (cls := cls) (names := names) (ic := ic) hown' hcls hnames h (fun x hx => nomatch hx) hfX hkX hcellA (by rw [hhp, hT]; exact Nat.le_refl _)
    (g := { method := m, pc := pc + 4, locals := ls, stack := .ref T.heap.size :: .ref T.heap.size :: rest, locked := none }) rfl hsize rfl rfl (rest := rest) rfl
    (by rw [hb]; exact d4) (by rw [hb]; exact d7) hout hRframes (by simp only [List.map_cons, List.sum_cons, hcat]; omega) hlocks
  obtain ⟨f1, f2⟩ := vx_frame hsame
  rw [hhp] at f1 f2
  have hWs : s.WarmedH U.vm := State.WarmedH.trans hW0 hW
  have hcl : s.vm.findClass cls = some ce.cls := by
    have h9 := hO.cls
    rw [hvm] at h9
    exact h9
  have hall : s.sameButNew ({ U with vm := s.vm } : State) locs mc ms := by
    subst hA
    obtain ⟨e1, e2⟩ := hsame
    rw [State.setFrames_setFrames] at e1
    have h2 : (T.setVm s.vm).sameButNew ({ U with vm := s.vm } : State) [] (0 + 1) (0 + 6) := ⟨e1, e2⟩
    have h3 := X.same.trans h2
    rw [List.append_nil] at h3
    exact h3.mono hc hs
  refine ⟨U, ?_, .threw T.heap.size, hrun, hend, Or.inr ⟨T.heap.size, rfl, cls, ce, locs, hx U hWs.alike f1 (fun q hq => f2 q hq (fun z hz => nomatch hz)), hce, hO.vm, hcl, hWs, hall, hf⟩⟩
  refine st1 _ ?_
  show Steps p.tables e below (T1.setTop { method := m, pc := pc + 3, locals := ls, stack := .ref T.heap.size :: rest, locked := none }) _
  jvm_step X₁.here [X₁.here.top, hexec, d3', Value.category]
  exact hsteps
theorem vx_throwS {cc : ByteArray} {pc : Nat} (hexec : p.tables.exec = Jvm.exec) (hb : c.code = cc) (hl : l.stackTraces = false) {own cls text : String} {names : List String} {ik is ic mc ms sa : Nat} {A : Nat → Prop}
    (hown : s.vm.findClass own = some m.cls) (hcls : Bundle.fit cls = true) (hnames : ∀ n ∈ names, Bundle.fit n = true)
    (hk : (Cond.classLink own ik cls).before args s = true) (hini : (Cond.initialized cls).before args s = true) (hstr : vk_R own is text sa s) (hat : ∀ w ∈ vx_atS own ic cls names, w.before args s = true)
    (hgood : ∀ w ∈ Cond.classLink own ik cls :: Cond.initialized cls :: vx_atS own ic cls names, vx_ot w = true)
    (hU : vx_Zq Bundle.tN "UNASSIGNED_STACK" Bundle.steD A s s.heap) (hN : vx_Zq Bundle.tN "SUPPRESSED_SENTINEL" Bundle.listD A s s.heap) (hS : va_S A s.heap H locs) (hsize : ls.size = c.maxLocals)
    (d0 : decode cc pc = .ok (.new ik, 3)) (d3 : decode cc (pc + 3) = .ok (.dup, 1)) (d4 : decode cc (pc + 4) = .ok (.ldc is, 2)) (d6 : decode cc (pc + 6) = .ok (.invokespecial ic, 3)) (d9 : decode cc (pc + 9) = .ok (.athrow, 1))
    (hout : ∀ x ∈ c.exceptionTable.toList, covers x (pc + 9) = false)
    (hRframes : names.length + 3 < R.frames) (hRlocals : (rest.map fun v => v.category).sum + (13 * (names.length + 1) + 43) ≤ R.locals) (hRcells : cells + 1 ≤ R.cells) (hRslots : slots + 6 ≤ R.slots) (hlocks : meth.locks = false)
    (hx : ∀ t : State, s.vm.Alike t.vm → H.size ≤ t.heap.size → (∀ q : Nat, q < H.size → t.heap[q]? = H[q]?) → XC cls s t)
    (hf : ∀ z ∈ locs, free z.base) (hc : cells + 1 ≤ mc) (hs : slots + 6 ≤ ms) :
    W p l e R s m args below meth c H locs cells slots (vx_MQ below Qc XC args s mc ms free) (F0 m pc ls rest) := by
  intro T hT X
  have htr : e.platform.stackTraces = false := (show e.platform.stackTraces = l.stackTraces by rw [X.admits.platform]).trans hl
  have Y := vx_rebase X (R' := { frames := R.frames, locals := R.locals, cells := 1, slots := 6 }) (Nat.le_refl _) (Nat.le_refl _) hRcells hRslots
  obtain ⟨s', hA⟩ : ∃ z, z = (T.setVm s.vm).setFrames (.invoking m args :: below) := ⟨_, rfl⟩
  rw [← hA] at Y
  have hvm : s'.vm = s.vm := by rw [hA]; rfl
  have hhp : s'.heap = H := by rw [hA]; exact hT
  have hW0 : s.WarmedH s'.vm := by rw [hvm]; exact State.WarmedH.refl s
  have hat' : ∀ w ∈ vx_atS own ic cls names, w.before args s' = true := fun w hw => vx_ot_at hW0 hvm.symm (hgood w (List.mem_cons_of_mem _ (List.mem_cons_of_mem _ hw))) (hat w hw)
  have hk' : (Cond.classLink own ik cls).before args s' = true := vx_ot_at hW0 hvm.symm (hgood _ List.mem_cons_self) hk
  have hini' : (Cond.initialized cls).before args s' = true := vx_ot_at hW0 hvm.symm (hgood _ (List.mem_cons_of_mem _ List.mem_cons_self)) hini
  have hU' : vx_Zq Bundle.tN "UNASSIGNED_STACK" Bundle.steD A s' s'.heap := by rw [hhp]; exact vx_Zq.moved hW0.alike (hU.kept hS.2.1)
  have hN' : vx_Zq Bundle.tN "SUPPRESSED_SENTINEL" Bundle.listD A s' s'.heap := by rw [hhp]; exact vx_Zq.moved hW0.alike (hN.kept hS.2.1)
  have h : ∀ w ∈ Bundle.ownAtoms own ic cls names, w.before args s' = true := vx_own hat' (vx_isRefq hU'.1) (vx_isRefq hN'.1) hU'.2.word hN'.2.word
  have hown' : s'.vm.findClass own = some m.cls := by rw [hvm]; exact hown
  have hins : (Cond.instantiable cls 6).before args s' = true := h _ (by simp [Bundle.ownAtoms])
  obtain ⟨vm₁, cX, kX, hfX, hkX, -, -, X₁, st1⟩ := Y.newCold hexec (own := own) (C := cls) (index := ik) (n := 6) hown' hk' hins hini'
    (g := F0 m pc ls rest) rfl (by rw [hb]; exact d0) (Nat.le_refl _) (Nat.le_refl _)
  generalize hT1 : (T.setVm vm₁).pushCell { cls := cX, slots := kX.instanceTypes.map defaultValue, vm := .none } = T1 at X₁ st1
  have hcat : (Value.ref T.heap.size).category = 1 := rfl
  have hcellA : T1.heap[T.heap.size]? = some (freshCell cX kX) := by rw [← hT1]; exact State.heap_pushCell_size _ _
  have d3' : decode c.code (pc + 3) = .ok (.dup, 1) := by rw [hb]; exact d3
  have d4' : decode c.code (pc + 4) = .ok (.ldc is, 2) := by rw [hb]; exact d4
  have hstr' : vk_R own is text sa s' := vk_R.warm hW0 hstr
  obtain ⟨U, hsteps, hrun, hend, hW, hsame, ce, hce, hO⟩ := X₁.ctorThrowS hexec htr (own := own) (cls := cls) (names := names) (ic := ic) hown' hcls hnames h (fun x hx => nomatch hx) hfX hkX hcellA (by rw [hhp, hT]; exact Nat.le_refl _) (msg := .ref sa) rfl
    (g := { method := m, pc := pc + 6, locals := ls, stack := .ref sa :: .ref T.heap.size :: .ref T.heap.size :: rest, locked := none }) rfl hsize rfl rfl (rest := rest) rfl
    (by rw [hb]; exact d6) (by rw [hb]; exact d9) hout hRframes (by simp only [List.map_cons, List.sum_cons, hcat]; omega) hlocks
  obtain ⟨f1, f2⟩ := vx_frame hsame
  rw [hhp] at f1 f2
  have hWs : s.WarmedH U.vm := State.WarmedH.trans hW0 hW
  have hcl : s.vm.findClass cls = some ce.cls := by
    have h9 := hO.cls
    rw [hvm] at h9
    exact h9
  have hall : s.sameButNew ({ U with vm := s.vm } : State) locs mc ms := by
    subst hA
    obtain ⟨e1, e2⟩ := hsame
    rw [State.setFrames_setFrames] at e1
    have h2 : (T.setVm s.vm).sameButNew ({ U with vm := s.vm } : State) [] (0 + 1) (0 + 6) := ⟨e1, e2⟩
    have h3 := X.same.trans h2
    rw [List.append_nil] at h3
    exact h3.mono hc hs
  refine ⟨U, ?_, .threw T.heap.size, hrun, hend, Or.inr ⟨T.heap.size, rfl, cls, ce, locs, hx U hWs.alike f1 (fun q hq => f2 q hq (fun z hz => nomatch hz)), hce, hO.vm, hcl, hWs, hall, hf⟩⟩
  refine st1 _ ?_
  show Steps p.tables e below (T1.setTop { method := m, pc := pc + 3, locals := ls, stack := .ref T.heap.size :: rest, locked := none }) _
  jvm_step X₁.here [X₁.here.top, hexec, d3', Value.category]
  exact X₁.ldcString hexec (own := own) (text := text) (index := is) (a := sa) hown' hstr'.1 hstr'.2
    (g := { method := m, pc := pc + 4, locals := ls, stack := .ref T.heap.size :: .ref T.heap.size :: rest, locked := none }) rfl d4' _ hsteps
theorem vx_throwSW {cc : ByteArray} {pc : Nat} (hexec : p.tables.exec = Jvm.exec) (hb : c.code = cc) (hl : l.stackTraces = false) {own cls text : String} {names : List String} {ik is ic mc ms sa : Nat} {A : Nat → Prop}
    (hown : s.vm.findClass own = some m.cls) (hcls : Bundle.fit cls = true) (hnames : ∀ n ∈ names, Bundle.fit n = true)
    (hk : (Cond.classLink own ik cls).before args s = true) (hini : (Cond.initialized cls).before args s = true) (hstr : vk_R own is text sa s) (hat : ∀ w ∈ vx_atS own ic cls names, w.before args s = true)
    (hgood : ∀ w ∈ Cond.classLink own ik cls :: Cond.initialized cls :: vx_atS own ic cls names, vx_ot w = true)
    (hU : vx_Zq Bundle.tN "UNASSIGNED_STACK" Bundle.steD A s s.heap) (hN : vx_Zq Bundle.tN "SUPPRESSED_SENTINEL" Bundle.listD A s s.heap) (hS : va_S A s.heap H locs) (hsize : ls.size = c.maxLocals)
    (d0 : decode cc pc = .ok (.new ik, 3)) (d3 : decode cc (pc + 3) = .ok (.dup, 1)) (d4 : decode cc (pc + 4) = .ok (.ldc_w is, 3)) (d7 : decode cc (pc + 7) = .ok (.invokespecial ic, 3)) (d10 : decode cc (pc + 10) = .ok (.athrow, 1))
    (hout : ∀ x ∈ c.exceptionTable.toList, covers x (pc + 10) = false)
    (hRframes : names.length + 3 < R.frames) (hRlocals : (rest.map fun v => v.category).sum + (13 * (names.length + 1) + 43) ≤ R.locals) (hRcells : cells + 1 ≤ R.cells) (hRslots : slots + 6 ≤ R.slots) (hlocks : meth.locks = false)
    (hx : ∀ t : State, s.vm.Alike t.vm → H.size ≤ t.heap.size → (∀ q : Nat, q < H.size → t.heap[q]? = H[q]?) → XC cls s t)
    (hf : ∀ z ∈ locs, free z.base) (hc : cells + 1 ≤ mc) (hs : slots + 6 ≤ ms) :
    W p l e R s m args below meth c H locs cells slots (vx_MQ below Qc XC args s mc ms free) (F0 m pc ls rest) := by
  intro T hT X
  have htr : e.platform.stackTraces = false := (show e.platform.stackTraces = l.stackTraces by rw [X.admits.platform]).trans hl
  have Y := vx_rebase X (R' := { frames := R.frames, locals := R.locals, cells := 1, slots := 6 }) (Nat.le_refl _) (Nat.le_refl _) hRcells hRslots
  obtain ⟨s', hA⟩ : ∃ z, z = (T.setVm s.vm).setFrames (.invoking m args :: below) := ⟨_, rfl⟩
  rw [← hA] at Y
  have hvm : s'.vm = s.vm := by rw [hA]; rfl
  have hhp : s'.heap = H := by rw [hA]; exact hT
  have hW0 : s.WarmedH s'.vm := by rw [hvm]; exact State.WarmedH.refl s
  have hat' : ∀ w ∈ vx_atS own ic cls names, w.before args s' = true := fun w hw => vx_ot_at hW0 hvm.symm (hgood w (List.mem_cons_of_mem _ (List.mem_cons_of_mem _ hw))) (hat w hw)
  have hk' : (Cond.classLink own ik cls).before args s' = true := vx_ot_at hW0 hvm.symm (hgood _ List.mem_cons_self) hk
  have hini' : (Cond.initialized cls).before args s' = true := vx_ot_at hW0 hvm.symm (hgood _ (List.mem_cons_of_mem _ List.mem_cons_self)) hini
  have hU' : vx_Zq Bundle.tN "UNASSIGNED_STACK" Bundle.steD A s' s'.heap := by rw [hhp]; exact vx_Zq.moved hW0.alike (hU.kept hS.2.1)
  have hN' : vx_Zq Bundle.tN "SUPPRESSED_SENTINEL" Bundle.listD A s' s'.heap := by rw [hhp]; exact vx_Zq.moved hW0.alike (hN.kept hS.2.1)
  have h : ∀ w ∈ Bundle.ownAtoms own ic cls names, w.before args s' = true := vx_own hat' (vx_isRefq hU'.1) (vx_isRefq hN'.1) hU'.2.word hN'.2.word
  have hown' : s'.vm.findClass own = some m.cls := by rw [hvm]; exact hown
  have hins : (Cond.instantiable cls 6).before args s' = true := h _ (by simp [Bundle.ownAtoms])
  obtain ⟨vm₁, cX, kX, hfX, hkX, -, -, X₁, st1⟩ := Y.newCold hexec (own := own) (C := cls) (index := ik) (n := 6) hown' hk' hins hini'
    (g := F0 m pc ls rest) rfl (by rw [hb]; exact d0) (Nat.le_refl _) (Nat.le_refl _)
  generalize hT1 : (T.setVm vm₁).pushCell { cls := cX, slots := kX.instanceTypes.map defaultValue, vm := .none } = T1 at X₁ st1
  have hcat : (Value.ref T.heap.size).category = 1 := rfl
  have hcellA : T1.heap[T.heap.size]? = some (freshCell cX kX) := by rw [← hT1]; exact State.heap_pushCell_size _ _
  have d3' : decode c.code (pc + 3) = .ok (.dup, 1) := by rw [hb]; exact d3
  have d4' : decode c.code (pc + 4) = .ok (.ldc_w is, 3) := by rw [hb]; exact d4
  have hstr' : vk_R own is text sa s' := vk_R.warm hW0 hstr
  obtain ⟨U, hsteps, hrun, hend, hW, hsame, ce, hce, hO⟩ := X₁.ctorThrowS hexec htr (own := own) (cls := cls) (names := names) (ic := ic) hown' hcls hnames h (fun x hx => nomatch hx) hfX hkX hcellA (by rw [hhp, hT]; exact Nat.le_refl _) (msg := .ref sa) rfl
    (g := { method := m, pc := pc + 7, locals := ls, stack := .ref sa :: .ref T.heap.size :: .ref T.heap.size :: rest, locked := none }) rfl hsize rfl rfl (rest := rest) rfl
    (by rw [hb]; exact d7) (by rw [hb]; exact d10) hout hRframes (by simp only [List.map_cons, List.sum_cons, hcat]; omega) hlocks
  obtain ⟨f1, f2⟩ := vx_frame hsame
  rw [hhp] at f1 f2
  have hWs : s.WarmedH U.vm := State.WarmedH.trans hW0 hW
  have hcl : s.vm.findClass cls = some ce.cls := by
    have h9 := hO.cls
    rw [hvm] at h9
    exact h9
  have hall : s.sameButNew ({ U with vm := s.vm } : State) locs mc ms := by
    subst hA
    obtain ⟨e1, e2⟩ := hsame
    rw [State.setFrames_setFrames] at e1
    have h2 : (T.setVm s.vm).sameButNew ({ U with vm := s.vm } : State) [] (0 + 1) (0 + 6) := ⟨e1, e2⟩
    have h3 := X.same.trans h2
    rw [List.append_nil] at h3
    exact h3.mono hc hs
  refine ⟨U, ?_, .threw T.heap.size, hrun, hend, Or.inr ⟨T.heap.size, rfl, cls, ce, locs, hx U hWs.alike f1 (fun q hq => f2 q hq (fun z hz => nomatch hz)), hce, hO.vm, hcl, hWs, hall, hf⟩⟩
  refine st1 _ ?_
  show Steps p.tables e below (T1.setTop { method := m, pc := pc + 3, locals := ls, stack := .ref T.heap.size :: rest, locked := none }) _
  jvm_step X₁.here [X₁.here.top, hexec, d3', Value.category]
  exact X₁.ldcStringW hexec (own := own) (text := text) (index := is) (a := sa) hown' hstr'.1 hstr'.2
    (g := { method := m, pc := pc + 4, locals := ls, stack := .ref T.heap.size :: .ref T.heap.size :: rest, locked := none }) rfl d4' _ hsteps
end Ends
section Bodies
variable {l : Launch}
theorem vx_ofW {y : MethodName} {ws ws' : List Cond} {rm : Room} {Pc : Array Value → State → Prop} {Qc : Array Value → State → Outcome → State → Prop} {XC : String → State → State → Prop} {mc ms : Nat} {free : Addr → Prop} {cc : ByteArray} {maxL : Nat} {ret : Option FieldType}
    (hy : plainName y.cls = true) (hw : ws = Cond.code y cc maxL ret :: ws')
    (body : ∀ p e s m args below meth c s₁, BodyLoose p l y (headSpec ws rm) cc maxL ret e s m args below meth c s₁ → c.maxLocals = maxL → (∀ x ∈ c.exceptionTable.toList, False) → Pc args s →
      W p l e (headSpec ws rm).room s m args below meth c s.heap [] 0 0 (vx_MQ below Qc XC args s mc ms free) (entryFrame m args maxL)) : vx_Met l y ws rm Pc Qc XC mc ms free := by
  refine MetFree.of_bodyS (code := cc) (maxLocals := maxL) (ret := ret) hy ?_ ?_
  · intro args s m h hn
    obtain ⟨meth, c, h1, h2, h3, h4, h5, h6, -, -⟩ := Cond.code_spec hn (atoms_spec (ws := ws) h _ (by rw [hw]; exact List.mem_cons_self))
    exact ⟨meth, c, h1, h2, h3, h4, h5, h6⟩
  · intro p e s m args below meth c s₁ B hml hP _
    have hh0 : s₁.heap = s.heap := by rw [B.state]; rfl
    have ht : ∀ x ∈ c.exceptionTable.toList, False := by
      obtain ⟨meth9, c9, h1, h2, -, -, -, -, h7, -⟩ := Cond.code_spec B.named (atoms_spec (ws := ws) B.pre _ (by rw [hw]; exact List.mem_cons_self))
      cases Option.some.inj (h1.symm.trans B.method)
      cases Option.some.inj (h2.symm.trans (Stand.of_body B).code)
      intro x hx
      rw [Array.isEmpty_iff.mp h7] at hx
      cases hx
    obtain ⟨t, a1, o, b1, b2, b3⟩ := body p e s m args below meth c s₁ B hml ht hP s₁ hh0 (Stand.of_body B)
    exact ⟨t, o, a1, b1, b2, b3⟩
theorem vx_table {p : Program} {x y : MethodName} {S : Spec} {cc bytes : ByteArray} {maxL maxL' : Nat} {ret ret' : Option FieldType} {e : Env} {s s₁ : State} {m : MethodId} {args : Array Value} {below : List Frame} {meth : Method} {c : Code} {hh : List (Nat × Nat × Nat × Nat)}
    (B : BodyLoose p l y S cc maxL ret e s m args below meth c s₁) (h : (Cond.codeWith y bytes maxL' ret' hh).before args s = true) : c.exceptionTable.toList = tableOf hh := by
  obtain ⟨m9, meth9, c9, hn9, h1, h2, -, -, h6, -⟩ := Cond.codeWith_spec h
  cases Option.some.inj (hn9.symm.trans B.named)
  cases Option.some.inj (h1.symm.trans B.method)
  cases Option.some.inj (h2.symm.trans (Stand.of_body B).code)
  rw [← h6, table_eq]
end Bodies
end VXA
section VXS
variable {p : Program} {l : Launch} {e : Env} {R : Room} {s : State} {m : MethodId} {args : Array Value} {below : List Frame} {meth : Method} {c : Code} {T : State} {H : Heap} {locs : List Loc} {cells slots : Nat}
abbrev vx_CSW (R : Room) (s : State) (args : Array Value) (own : String) (index : Nat) (y : MethodName) (bytes : ByteArray) (maxL : Nat) (ret : Option FieldType) (hh : List (Nat × Nat × Nat × Nat)) (ws : List Cond) (rm : Room) (mc ms n : Nat) : Prop :=
  (rm.cells = mc ∧ rm.slots = ms ∧ rm.frames + 1 ≤ R.frames ∧ 8 + (maxL + 11) + rm.locals ≤ R.locals ∧ (∀ w ∈ ws, ∀ (a' : Array Value) (U : State), s.WarmedH U.vm → w.before a' U = true) ∧ Cond.codeWith y bytes maxL ret hh ∈ ws) ∧
  (Cond.codeWith y bytes maxL ret hh).before args s = true ∧ (Cond.initialized y.cls).before args s = true ∧ (y.cls ≠ "java/lang/invoke/MethodHandle" ∧ y.cls ≠ "java/lang/invoke/VarHandle") ∧
  (∀ sig, parseMethodDescriptor y.desc = some sig → n = sig.parameters.length) ∧ (Cond.methodLink own index y).before args s = true ∧ (Cond.static y).before args s = true
theorem vx_cwSW {own : String} {index maxL mc ms : Nat} {y : MethodName} {bytes : ByteArray} {ret : Option FieldType} {hh : List (Nat × Nat × Nat × Nat)} {Ts ws ws' : List Cond} {rm : Room} (n : Nat) (ht : ∀ w ∈ Ts, w.before args s = true) (hT : GoodIn Ts (va_wsS own index y ws)) (hw : ws = Cond.codeWith y bytes maxL ret hh :: ws') (hrc : rm.cells = mc) (hrs : rm.slots = ms)
    (hd : y.cls ≠ "java/lang/invoke/MethodHandle" ∧ y.cls ≠ "java/lang/invoke/VarHandle" ∧ (parseMethodDescriptor y.desc).map (fun d => d.parameters.length) = some n) (hR : rm.frames + 1 ≤ R.frames ∧ 8 + (maxL + 11) + rm.locals ≤ R.locals) :
    vx_CSW R s args own index y bytes maxL ret hh ws rm mc ms n := by
  have ok : ∀ w ∈ va_wsS own index y ws, w.before args s = true := fun w h => ht w (hT w h).1
  have hG : GoodIn Ts ws := fun w h => hT w (by unfold va_wsS; exact List.mem_append_right _ h)
  have hc : Cond.codeWith y bytes maxL ret hh ∈ ws := by rw [hw]; exact List.mem_cons_self
  refine ⟨⟨hrc, hrs, hR.1, hR.2, pay_in ht hG, hc⟩, ht _ (hG _ hc).1, ok _ (by simp [va_wsS]), ⟨hd.1, hd.2.1⟩, fun sig h => ?_, ok _ (by simp [va_wsS]), ok _ (by simp [va_wsS])⟩
  have h2 := hd.2.2
  rw [h] at h2
  exact (Option.some.inj h2).symm
theorem vx_callSW (X : Stand p l e R s m args below meth c T locs cells slots) (hexec : p.tables.exec = Jvm.exec) {own : String} {index : Nat} {y : MethodName} {bytes : ByteArray} {maxL : Nat} {ret : Option FieldType} {hh : List (Nat × Nat × Nat × Nat)}
    (hown : s.vm.findClass own = some m.cls) (hlink : (Cond.methodLink own index y).before args s = true) (hstat : (Cond.static y).before args s = true) (hinit : (Cond.initialized y.cls).before args s = true)
    (hcode : (Cond.codeWith y bytes maxL ret hh).before args s = true) (hy : y.cls ≠ "java/lang/invoke/MethodHandle" ∧ y.cls ≠ "java/lang/invoke/VarHandle")
    {W9 : Nat} {Pre : Pt → Array Value → Prop} {Post : Pt → Array Value → Option Value → Pt → Prop} (hK : Back l R p e below s args y 3 W9 Pre Post)
    {g : JFrame} (hg : g.method = m) (hsize : g.locals.size = c.maxLocals) {argsL rest : List Value} (hlen : ∀ sig, parseMethodDescriptor y.desc = some sig → argsL.length = sig.parameters.length)
    (hstack : g.stack = argsL.reverse ++ rest) (hW : 2 * g.monitorRoom + (rest.map fun v => v.category).sum ≤ W9) (hdg : decode c.code g.pc = .ok (.invokestatic index, 3))
    (hpre : ∀ vm₁, s.WarmedH vm₁ → Pre ⟨T.setVm vm₁, locs, cells, slots⟩ argsL.toArray) :
    ∃ (v : Option Value) (vm₁ : Vm) (B : Pt), s.WarmedH vm₁ ∧ Stand p l e R s m args below meth c B.U B.locs B.cells B.slots ∧ Post ⟨T.setVm vm₁, locs, cells, slots⟩ argsL.toArray v B ∧
      ∀ target, Steps p.tables e below (B.U.setTop { g with pc := g.pc + 3, stack := v.toList ++ rest }) target → Steps p.tables e below (T.setTop g) target := by
  obtain ⟨mk, methM, cM, hnamed, hmethM, -, -, -, -, -, -, hsigM⟩ := Cond.codeWith_spec hcode
  have hstatic : methM.isStatic = true := Cond.static_spec hnamed hmethM hstat
  obtain ⟨kP, hkP, -⟩ := className_of_methodNamed hnamed
  have hinitP : kP.init = .initialized := Cond.initialized_spec (findClass_of_methodNamed hnamed) hkP hinit
  obtain ⟨vm₁, X₁, hstep₁⟩ := X.invokestatic hexec hown hlink hnamed hmethM hstatic hkP hinitP hy (g := g) hg (argsL := argsL) (rest := rest) (hlen _ hsigM) hstack hdg
  obtain ⟨v, B, X', hpost, hsteps⟩ := hK m meth c ⟨T.setVm vm₁, locs, cells, slots⟩ { g with stack := rest } (.invokestatic index) mk argsL.toArray X₁ hg hsize hdg hW (X₁.named hnamed) (hpre vm₁ X₁.warmed)
  exact ⟨v, vm₁, B, X₁.warmed, X', hpost, fun target h => hstep₁ _ fun acts => by rw [doInvoke_state]; exact hsteps.trans h⟩
theorem vx_runSW {y : MethodName} {bytes cc : ByteArray} {maxL nL mc ms n index : Nat} {ret : Option FieldType} {hh : List (Nat × Nat × Nat × Nat)} {ws : List Cond} {rm : Room} {Pc : Array Value → State → Prop} {Qc : Array Value → State → Outcome → State → Prop} {free : Addr → Prop} {Ts : List Cond} {own : String} {As rest : List Value} {g : JFrame}
    (S : CallFix p m c cc nL s args Ts own) (hM : Met l y ws rm Pc Qc mc ms free) (cw : vx_CSW R s args own index y bytes maxL ret hh ws rm mc ms n) (hp : PreS s H Pc As)
    (hg : g.method = m) (hn : As.length = n) (hsize : g.locals.size = nL) (hstack : g.stack = As.reverse ++ rest) (hW : 2 * g.monitorRoom + (rest.map fun v => v.category).sum ≤ 8) (hdg : decode cc g.pc = .ok (.invokestatic index, 3)) (hf : cells + mc ≤ R.cells ∧ slots + ms ≤ R.slots) :
    va_Run p l e R s m args below meth c H locs cells slots mc ms g rest (Qc As.toArray) (free) := by
  obtain ⟨⟨hrc, hrs, hfr, hlo, hws, hcw⟩, hcode, hini, hy, hlen, hl, hstt⟩ := cw
  have hK : Back l R p e below s args y 3 8 (PreOf R mc ms Pc) (PostOf Qc mc ms free) := va_backW (hh := hh) (bytes := bytes) (maxL := maxL) (ret := ret) hM hp.1 hrc hrs hfr hlo hws hcw (fun a' U hW => word_at hW (Or.inl (by first | rfl | simp [Cond.onTables, Cond.keeps, Cond.steady])) hini)
  obtain ⟨hx, hb, hml, ho, -⟩ := S
  intro T hT X
  obtain ⟨v, vm₁, ⟨U', l2, c2, s2⟩, hW₁, X', ⟨g', mk, t, L, e1, e2, hq, h1, hL, h2, h3⟩, st⟩ := vx_callSW X hx (hh := hh) (bytes := bytes) (maxL := maxL) (ret := ret) ho hl hstt hini hcode hy hK hg (hsize.trans hml.symm) (argsL := As) (rest := rest) (fun sig h => hn.trans (hlen sig h)) hstack hW (by rw [hb]; exact hdg)
    (fun vm₁ hW₁ => ⟨hf.1, hf.2, hp.2 (T.setVm vm₁) hT hW₁⟩)
  dsimp only [Pt.U, Pt.locs, Pt.cells, Pt.slots] at X' e1 e2 h1 h2 h3 st
  subst h1; subst h2; subst h3
  exact ⟨v, (T.setVm vm₁).calling g' mk As.toArray, t, U', L, hT, X', hL, e1, e2, hq, st⟩
theorem vx_outP {p : Program} {l : Launch} {e : Env} {R : Room} {s : State} {m : MethodId} {args : Array Value} {below : List Frame} {meth : Method} {c : Code} {H : Heap} {locs : List Loc} {cells slots : Nat} {free : Addr → Prop} {ls : Array Slot} {rest : List Value} {Qc : Array Value → State → Outcome → State → Prop} {XC : String → State → State → Prop}
    {pc : Nat} {own E : String} {ce : Cell} {q : Addr} {mc ms : Nat} (hown : s.vm.findClass own = some m.cls) (hlocks : meth.locks = false)
    (hpass : ∀ z ∈ c.exceptionTable.toList, covers z pc = false ∨ (z.catchType ≠ 0 ∧ ∃ nm : String, (Cond.classLink own z.catchType nm).before args s = true ∧ va_Nc E nm s)) (hcell : H[q]? = some ce) (hv : ce.vm = .none) (hcl : s.vm.findClass E = some ce.cls)
    (hx : ∀ t : State, t.heap = H → s.vm.Alike t.vm → XC E s t) (hf : ∀ z ∈ locs, free z.base) (hc : cells ≤ mc) (hs : slots ≤ ms) :
    vx_W p l e R s m args below meth c H locs cells slots (vx_MQ below Qc XC args s mc ms free) (F0 m pc ls rest) q := by
  intro T hT X
  have hpl : e.platform.magicAccessors = ({} : Platform).magicAccessors := by rw [X.admits.platform]
  obtain ⟨vm', hW', X', st⟩ := X.outThrough hlocks q (g := F0 m pc ls rest) rfl rfl rfl (cell := ce) (by rw [hT]; exact hcell) (by rw [hv]; rfl)
    (by obtain ⟨k9, h9, -⟩ := Vm.findClass_spec hcl; exact ⟨k9, h9⟩) (fun z hz => by
      rcases hpass z hz with h | ⟨hz0, nm, hl1, hn1⟩
      · exact Or.inl h
      · obtain ⟨c6, hc6, hcl6⟩ := Cond.classLink_spec hown hl1 e.platform hpl
        obtain ⟨a8, b8, h1, h2, h3⟩ := hn1
        cases Option.some.inj (h1.symm.trans hcl)
        cases Option.some.inj (h2.symm.trans hc6)
        exact Or.inr ⟨hz0, _, hcl6, h3⟩)
  obtain ⟨g₀, hfr⟩ := X'.frames_eq
  have hcell9 : ((T.setVm vm').setFrames (.throwing q :: below)).heap[q]? = some ce := by
    show T.heap[q]? = some ce
    rw [hT]; exact hcell
  have hend : Ended ((T.setVm vm').setFrames (.throwing q :: below)) below (.threw q) := State.frames_setFrames _ (State.cur_lt_of_frames hfr)
  refine ⟨(T.setVm vm').setFrames (.throwing q :: below), ?_, .threw q, X'.here.running, hend, Or.inr ⟨q, rfl, E, ce, locs, hx _ hT (X'.ends _).1.alike, hcell9, hv, hcl, (X'.ends _).1, (X'.ends _).2.mono hc hs, hf⟩⟩
  rw [X.pushThrowing_eq]
  exact st
theorem vx_lt {D : va_G} {cl : List vw_C} {ws : va_W} {H1 : Heap} (h : va_P D cl ws H1) {k : Nat} {q : Nat × va_E} (hk : ws[k]? = some q) : q.1 < H1.size := (h k q hk).lt
end VXS
section VXH
section
variable {l : Launch} {R : Room} {p : Program} {e : Env} {below : List Frame} {s : State} {sargs : Array Value} {y : MethodName} {len W9 : Nat}
theorem vx_backW {ws : List Cond} {rm : Room} {Pc : Array Value → State → Prop} {Qc : Array Value → State → Outcome → State → Prop} {XC : String → State → State → Prop} {mc ms : Nat} {free : Addr → Prop} {bytes : ByteArray} {maxL : Nat} {ret : Option FieldType} {hh : List (Nat × Nat × Nat × Nat)}
    (hM : vx_Met l y ws rm Pc Qc XC mc ms free) (hblind : FrameBlind Pc) (hrc : rm.cells = mc) (hrs : rm.slots = ms)
    (hframes : rm.frames + 1 ≤ R.frames) (hlocals : W9 + (maxL + 11) + rm.locals ≤ R.locals)
    (hws : ∀ w ∈ ws, ∀ a' U, s.WarmedH U.vm → w.before a' U = true) (hcode : Cond.codeWith y bytes maxL ret hh ∈ ws) (hinit : ∀ a' U, s.WarmedH U.vm → (Cond.initialized y.cls).before a' U = true) :
    vx_Back l R p e below s sargs y len W9 (PreOf R mc ms Pc) (PostOf Qc mc ms free) (vx_Post XC mc ms free) := by
  intro m meth c A g ig mk a X hg hsize hdg hW hn hp
  have h1 : (headSpec ws rm).pre.before a A.U = true := atoms_intro fun w hw => hws w hw _ _ X.warmed
  have h2 : (Cond.codeWith y bytes maxL ret hh).before a A.U = true := hws _ hcode _ _ X.warmed
  have h3 : (Cond.initialized y.cls).before a A.U = true := hinit _ _ X.warmed
  have h4 : A.cells + (headSpec ws rm).room.cells ≤ R.cells := by rw [show (headSpec ws rm).room.cells = mc from hrc]; exact hp.1
  have h5 : A.slots + (headSpec ws rm).room.slots ≤ R.slots := by rw [show (headSpec ws rm).room.slots = ms from hrs]; exact hp.2.1
  have hPc : Pc a (A.U.calling g mk a) := hblind _ _ _ _ hp.2.2
  obtain ⟨U, Ls, c0, s0⟩ := A
  dsimp only [Pt.U, Pt.locs, Pt.cells, Pt.slots] at h1 h2 h3 h4 h5 X hn hPc ⊢
  obtain ⟨m9, methY, cY, hn9, hmY, hcY, -, hlY, -⟩ := Cond.codeWith_spec h2
  cases Option.some.inj (hn9.symm.trans hn)
  obtain ⟨kY, hkY, -⟩ := className_of_methodNamed hn
  have hinitY : kY.init = .initialized := Cond.initialized_spec (findClass_of_methodNamed hn) hkY h3
  have h : At U g.method c below := by rw [hg]; exact X.here
  have hlocals9 : W9 + (maxL + 11) + (headSpec ws rm).room.locals ≤ R.locals := hlocals
  have happ : (headSpec ws rm).appliesLoose y e.platform (U.calling g mk a) = true :=
    Spec.appliesLoose_calling (g := g) h hdg hn hkY hinitY
      (X.room_calling (g := g) (R' := (headSpec ws rm).room) hsize hmY hcY hframes (by rw [hlY]; omega) h4 h5) h1
  obtain ⟨mid, hmid⟩ := h.above
  have hfr : (U.setTop g).frames = (.java g :: mid) ++ below := by rw [State.frames_setTop' g h.top, hmid]; rfl
  obtain ⟨o, s₂, hsteps, -, hend, hq⟩ := Steps.callFree hM p X.admits X.cas X.clock (acts := []) hfr happ hPc trivial
  have hq' : vx_Q Qc XC mc ms free a (U.calling g mk a) o s₂ := hq
  rw [State.frames_setTop' g h.top] at hend
  obtain ⟨g₀, hg0⟩ := Option.isSome_iff_exists.mp h.top
  obtain ⟨r, hr⟩ := State.topJava?_eq_some.mp hg0
  have hr' : (({ U with heap := s₂.heap, slotsUsed := s₂.slotsUsed } : State).setVm s₂.vm).frames = .java g₀ :: r := hr
  rcases hq' with ⟨hqc, L, hfe, hL⟩ | ⟨q, rfl, E, ce, L, hx, hce, hcv, hcl, hW₂, hsm, hL⟩
  · obtain ⟨⟨v, rfl⟩, hW₂, e2, q2, q3, q4, q5, q6⟩ := id hfe
    have e3 : s₂ = ({ (U.calling g mk a).setFrames s₂.frames with heap := s₂.heap, slotsUsed := s₂.slotsUsed } : State).setVm s₂.vm := by
      have : s₂ = ({ s₂ with vm := (U.calling g mk a).vm } : State).setVm s₂.vm := rfl
      rw [e2] at this
      exact this
    obtain ⟨c₂, i₂, len₂, hc₂, hd₂, hf₂⟩ := hend
    have hW' : U.WarmedH s₂.vm := hW₂
    have hcc : c₂ = c := by
      have h1 : s₂.code? g.method = U.code? g.method := by
        rw [State.code?_eq, State.code?_eq, hW'.alike.method?]
      exact Option.some.inj (hc₂.symm.trans (h1.trans h.code))
    subst hcc
    have hlen : len₂ = len := by rw [hdg] at hd₂; cases hd₂; rfl
    subst hlen
    have hs₂ : s₂ = (({ U with heap := s₂.heap, slotsUsed := s₂.slotsUsed } : State).setVm s₂.vm).setTop { g with pc := g.pc + len₂, stack := v.toList ++ g.stack } := by
      refine e3.trans ?_
      rw [hf₂, State.calling_eq h.top, State.setFrames_setFrames, State.setTop_of_frames _ hr', hr]
      rfl
    have hsame : U.sameButNew ({ U with heap := s₂.heap, slotsUsed := s₂.slotsUsed } : State) L mc ms := by
      refine ⟨?_, q2, q3, q4, q5, q6⟩
      obtain ⟨t, ht, -⟩ := State.frames_cons hr
      show ({ U with heap := s₂.heap, slotsUsed := s₂.slotsUsed } : State) = { U.setFrames U.frames with heap := s₂.heap, slotsUsed := s₂.slotsUsed }
      rw [State.setFrames_self ht]
    subst hg
    refine Or.inl ⟨v, ⟨(({ U with heap := s₂.heap, slotsUsed := s₂.slotsUsed } : State).setVm s₂.vm), Ls ++ L, c0 + mc, s0 + ms⟩,
      ⟨X.admits, X.cas, X.clock, X.frames, X.room, X.hears, X.method, X.code, (X.here.setHeapUsed s₂.heap s₂.slotsUsed).setVm hW'.alike, X.tail, State.WarmedH.trans X.warmed hW', X.limits, X.bytes, X.same.trans (hsame.setVm s.vm)⟩,
      ⟨g, mk, s₂, L, rfl, rfl, hqc, rfl, hL, rfl, rfl⟩, ?_⟩
    show Steps p.tables e below _ ((({ U with heap := s₂.heap, slotsUsed := s₂.slotsUsed } : State).setVm s₂.vm).setTop { g with pc := g.pc + len₂, stack := v.toList ++ g.stack })
    rw [← hs₂]
    exact hsteps
  · obtain ⟨e2, q2, q3, q4, q5, q6⟩ := id hsm
    have e3 : s₂ = ({ (U.calling g mk a).setFrames s₂.frames with heap := s₂.heap, slotsUsed := s₂.slotsUsed } : State).setVm s₂.vm := by
      have : s₂ = ({ s₂ with vm := (U.calling g mk a).vm } : State).setVm s₂.vm := rfl
      rw [e2] at this
      exact this
    have hf₂ : s₂.frames = .throwing q :: .java g :: U.frames.tail := hend
    have hW' : U.WarmedH s₂.vm := hW₂
    have hs₂ : s₂ = ((({ U with heap := s₂.heap, slotsUsed := s₂.slotsUsed } : State).setVm s₂.vm).setTop g).pushFrame (.throwing q) := by
      refine e3.trans ?_
      rw [hf₂, State.calling_eq h.top, State.setFrames_setFrames, State.pushFrame, State.frames_setTop _ hr', State.setTop_of_frames _ hr', State.setFrames_setFrames, hr]
      rfl
    have hsame : U.sameButNew ({ U with heap := s₂.heap, slotsUsed := s₂.slotsUsed } : State) L mc ms := by
      refine ⟨?_, q2, q3, q4, q5, q6⟩
      obtain ⟨t, ht, -⟩ := State.frames_cons hr
      show ({ U with heap := s₂.heap, slotsUsed := s₂.slotsUsed } : State) = { U.setFrames U.frames with heap := s₂.heap, slotsUsed := s₂.slotsUsed }
      rw [State.setFrames_self ht]
    subst hg
    refine Or.inr ⟨q, ⟨(({ U with heap := s₂.heap, slotsUsed := s₂.slotsUsed } : State).setVm s₂.vm), Ls ++ L, c0 + mc, s0 + ms⟩,
      ⟨X.admits, X.cas, X.clock, X.frames, X.room, X.hears, X.method, X.code, (X.here.setHeapUsed s₂.heap s₂.slotsUsed).setVm hW'.alike, X.tail, State.WarmedH.trans X.warmed hW', X.limits, X.bytes, X.same.trans (hsame.setVm s.vm)⟩,
      ⟨g, mk, s₂, L, E, ce, rfl, rfl, hx, hce, hcv, hcl, rfl, hL, rfl, rfl⟩, ?_⟩
    show Steps p.tables e below _ (((({ U with heap := s₂.heap, slotsUsed := s₂.slotsUsed } : State).setVm s₂.vm).setTop g).pushFrame (.throwing q))
    rw [← hs₂]
    exact hsteps
end
variable {p : Program} {l : Launch} {e : Env} {R : Room} {s : State} {m : MethodId} {args : Array Value} {below : List Frame} {meth : Method} {c : Code} {T : State} {H : Heap} {locs : List Loc} {cells slots : Nat}
theorem vx_callVX (X : Stand p l e R s m args below meth c T locs cells slots) (hexec : p.tables.exec = Jvm.exec) {own C : String} {index : Nat} {y : MethodName} {bytes : ByteArray} {maxL : Nat} {ret : Option FieldType} {hh : List (Nat × Nat × Nat × Nat)}
    (hown : s.vm.findClass own = some m.cls) (hlink : (Cond.methodLink own index y).before args s = true) (hinst : (Cond.instanceMethod y).before args s = true) (hsel : (Cond.selects C y y).before args s = true)
    (hcode : (Cond.codeWith y bytes maxL ret hh).before args s = true) (hy : y.cls ≠ "java/lang/invoke/MethodHandle" ∧ y.cls ≠ "java/lang/invoke/VarHandle")
    {W9 : Nat} {Pre : Pt → Array Value → Prop} {Post : Pt → Array Value → Option Value → Pt → Prop} {PostX : Pt → Array Value → Addr → Pt → Prop} (hK : vx_Back l R p e below s args y 3 W9 Pre Post PostX)
    {b : Addr} {cellB : Cell} (hcell : T.heap[b]? = some cellB) (hobj : cellB.vm.isStatics = false) (hcls : s.vm.findClass C = some cellB.cls)
    {g : JFrame} (hg : g.method = m) (hsize : g.locals.size = c.maxLocals) {argsL rest : List Value} (hlen : ∀ sig, parseMethodDescriptor y.desc = some sig → argsL.length = sig.parameters.length)
    (hstack : g.stack = argsL.reverse ++ .ref b :: rest) (hW : 2 * g.monitorRoom + (rest.map fun v => v.category).sum ≤ W9) (hdg : decode c.code g.pc = .ok (.invokevirtual index, 3))
    (hpre : ∀ vm₁, s.WarmedH vm₁ → Pre ⟨T.setVm vm₁, locs, cells, slots⟩ (Value.ref b :: argsL).toArray) :
    (∃ (v : Option Value) (vm₁ : Vm) (B : Pt), s.WarmedH vm₁ ∧ Stand p l e R s m args below meth c B.U B.locs B.cells B.slots ∧ Post ⟨T.setVm vm₁, locs, cells, slots⟩ (Value.ref b :: argsL).toArray v B ∧
      ∀ target, Steps p.tables e below (B.U.setTop { g with pc := g.pc + 3, stack := v.toList ++ rest }) target → Steps p.tables e below (T.setTop g) target) ∨
    (∃ (q : Addr) (vm₁ : Vm) (B : Pt), s.WarmedH vm₁ ∧ Stand p l e R s m args below meth c B.U B.locs B.cells B.slots ∧ PostX ⟨T.setVm vm₁, locs, cells, slots⟩ (Value.ref b :: argsL).toArray q B ∧
      Steps p.tables e below (T.setTop g) ((B.U.setTop { g with stack := rest }).pushFrame (.throwing q))) := by
  obtain ⟨mk, methM, hnamed, hmethM, hstM, habM⟩ := Cond.instanceMethod_spec hinst
  obtain ⟨m8, methM', cM, hn8, hmethM', -, -, -, -, -, -, hsigM⟩ := Cond.codeWith_spec hcode
  cases Option.some.inj (hn8.symm.trans hnamed)
  cases hmethM.symm.trans hmethM'
  obtain ⟨c2, r2, m2, q1, q2, q3, q4, kP, hkP, hkPi⟩ := Cond.selects_spec hsel
  cases hcls.symm.trans q1
  cases (State.methodFound?_of_named hnamed hy).symm.trans q2
  cases hnamed.symm.trans q3
  have hselP : selectMethod e.platform s.vm cellB.cls mk = .method mk := by rw [Launch.admits_selectMethod X.admits]; exact q4
  obtain ⟨vm₁, X₁, hstep₁⟩ := X.invokevirtual hexec hown hlink hnamed hmethM hstM hkP hkPi hy (a := b) (cell := cellB) hcell
    (fun z h => by rw [h] at hobj; cases hobj) hselP hmethM habM hkP hkPi (g := g) hg (argsL := argsL) (rest := rest) (hlen _ hsigM) hstack hdg
  rcases hK m meth c ⟨T.setVm vm₁, locs, cells, slots⟩ { g with stack := rest } (.invokevirtual index) mk (Value.ref b :: argsL).toArray X₁ hg hsize hdg hW (X₁.named hnamed) (hpre vm₁ X₁.warmed) with ⟨v, B, X', hpost, hsteps⟩ | ⟨q, B, X', hpost, hsteps⟩
  · exact Or.inl ⟨v, vm₁, B, X₁.warmed, X', hpost, fun target h => hstep₁ _ fun acts => by rw [doInvoke_state]; exact hsteps.trans h⟩
  · exact Or.inr ⟨q, vm₁, B, X₁.warmed, X', hpost, hstep₁ _ fun acts => by rw [doInvoke_state]; exact hsteps⟩
theorem vx_callSX (X : Stand p l e R s m args below meth c T locs cells slots) (hexec : p.tables.exec = Jvm.exec) {own : String} {index : Nat} {y : MethodName} {bytes : ByteArray} {maxL : Nat} {ret : Option FieldType} {hh : List (Nat × Nat × Nat × Nat)}
    (hown : s.vm.findClass own = some m.cls) (hlink : (Cond.methodLink own index y).before args s = true) (hstat : (Cond.static y).before args s = true) (hinit : (Cond.initialized y.cls).before args s = true)
    (hcode : (Cond.codeWith y bytes maxL ret hh).before args s = true) (hy : y.cls ≠ "java/lang/invoke/MethodHandle" ∧ y.cls ≠ "java/lang/invoke/VarHandle")
    {W9 : Nat} {Pre : Pt → Array Value → Prop} {Post : Pt → Array Value → Option Value → Pt → Prop} {PostX : Pt → Array Value → Addr → Pt → Prop} (hK : vx_Back l R p e below s args y 3 W9 Pre Post PostX)
    {g : JFrame} (hg : g.method = m) (hsize : g.locals.size = c.maxLocals) {argsL rest : List Value} (hlen : ∀ sig, parseMethodDescriptor y.desc = some sig → argsL.length = sig.parameters.length)
    (hstack : g.stack = argsL.reverse ++ rest) (hW : 2 * g.monitorRoom + (rest.map fun v => v.category).sum ≤ W9) (hdg : decode c.code g.pc = .ok (.invokestatic index, 3))
    (hpre : ∀ vm₁, s.WarmedH vm₁ → Pre ⟨T.setVm vm₁, locs, cells, slots⟩ argsL.toArray) :
    (∃ (v : Option Value) (vm₁ : Vm) (B : Pt), s.WarmedH vm₁ ∧ Stand p l e R s m args below meth c B.U B.locs B.cells B.slots ∧ Post ⟨T.setVm vm₁, locs, cells, slots⟩ argsL.toArray v B ∧
      ∀ target, Steps p.tables e below (B.U.setTop { g with pc := g.pc + 3, stack := v.toList ++ rest }) target → Steps p.tables e below (T.setTop g) target) ∨
    (∃ (q : Addr) (vm₁ : Vm) (B : Pt), s.WarmedH vm₁ ∧ Stand p l e R s m args below meth c B.U B.locs B.cells B.slots ∧ PostX ⟨T.setVm vm₁, locs, cells, slots⟩ argsL.toArray q B ∧
      Steps p.tables e below (T.setTop g) ((B.U.setTop { g with stack := rest }).pushFrame (.throwing q))) := by
  obtain ⟨mk, methM, cM, hnamed, hmethM, -, -, -, -, -, -, hsigM⟩ := Cond.codeWith_spec hcode
  have hstatic : methM.isStatic = true := Cond.static_spec hnamed hmethM hstat
  obtain ⟨kP, hkP, -⟩ := className_of_methodNamed hnamed
  have hinitP : kP.init = .initialized := Cond.initialized_spec (findClass_of_methodNamed hnamed) hkP hinit
  obtain ⟨vm₁, X₁, hstep₁⟩ := X.invokestatic hexec hown hlink hnamed hmethM hstatic hkP hinitP hy (g := g) hg (argsL := argsL) (rest := rest) (hlen _ hsigM) hstack hdg
  rcases hK m meth c ⟨T.setVm vm₁, locs, cells, slots⟩ { g with stack := rest } (.invokestatic index) mk argsL.toArray X₁ hg hsize hdg hW (X₁.named hnamed) (hpre vm₁ X₁.warmed) with ⟨v, B, X', hpost, hsteps⟩ | ⟨q, B, X', hpost, hsteps⟩
  · exact Or.inl ⟨v, vm₁, B, X₁.warmed, X', hpost, fun target h => hstep₁ _ fun acts => by rw [doInvoke_state]; exact hsteps.trans h⟩
  · exact Or.inr ⟨q, vm₁, B, X₁.warmed, X', hpost, hstep₁ _ fun acts => by rw [doInvoke_state]; exact hsteps⟩
theorem vx_callVW (X : Stand p l e R s m args below meth c T locs cells slots) (hexec : p.tables.exec = Jvm.exec) {own C : String} {index : Nat} {y : MethodName} {bytes : ByteArray} {maxL : Nat} {ret : Option FieldType} {hh : List (Nat × Nat × Nat × Nat)}
    (hown : s.vm.findClass own = some m.cls) (hlink : (Cond.methodLink own index y).before args s = true) (hinst : (Cond.instanceMethod y).before args s = true) (hsel : (Cond.selects C y y).before args s = true)
    (hcode : (Cond.codeWith y bytes maxL ret hh).before args s = true) (hy : y.cls ≠ "java/lang/invoke/MethodHandle" ∧ y.cls ≠ "java/lang/invoke/VarHandle")
    {W9 : Nat} {Pre : Pt → Array Value → Prop} {Post : Pt → Array Value → Option Value → Pt → Prop} (hK : Back l R p e below s args y 3 W9 Pre Post)
    {b : Addr} {cellB : Cell} (hcell : T.heap[b]? = some cellB) (hobj : cellB.vm.isStatics = false) (hcls : s.vm.findClass C = some cellB.cls)
    {g : JFrame} (hg : g.method = m) (hsize : g.locals.size = c.maxLocals) {argsL rest : List Value} (hlen : ∀ sig, parseMethodDescriptor y.desc = some sig → argsL.length = sig.parameters.length)
    (hstack : g.stack = argsL.reverse ++ .ref b :: rest) (hW : 2 * g.monitorRoom + (rest.map fun v => v.category).sum ≤ W9) (hdg : decode c.code g.pc = .ok (.invokevirtual index, 3))
    (hpre : ∀ vm₁, s.WarmedH vm₁ → Pre ⟨T.setVm vm₁, locs, cells, slots⟩ (Value.ref b :: argsL).toArray) :
    ∃ (v : Option Value) (vm₁ : Vm) (B : Pt), s.WarmedH vm₁ ∧ Stand p l e R s m args below meth c B.U B.locs B.cells B.slots ∧ Post ⟨T.setVm vm₁, locs, cells, slots⟩ (Value.ref b :: argsL).toArray v B ∧
      ∀ target, Steps p.tables e below (B.U.setTop { g with pc := g.pc + 3, stack := v.toList ++ rest }) target → Steps p.tables e below (T.setTop g) target := by
  obtain ⟨mk, methM, hnamed, hmethM, hstM, habM⟩ := Cond.instanceMethod_spec hinst
  obtain ⟨m8, methM', cM, hn8, hmethM', -, -, -, -, -, -, hsigM⟩ := Cond.codeWith_spec hcode
  cases Option.some.inj (hn8.symm.trans hnamed)
  cases hmethM.symm.trans hmethM'
  obtain ⟨c2, r2, m2, q1, q2, q3, q4, kP, hkP, hkPi⟩ := Cond.selects_spec hsel
  cases hcls.symm.trans q1
  cases (State.methodFound?_of_named hnamed hy).symm.trans q2
  cases hnamed.symm.trans q3
  have hselP : selectMethod e.platform s.vm cellB.cls mk = .method mk := by rw [Launch.admits_selectMethod X.admits]; exact q4
  obtain ⟨vm₁, X₁, hstep₁⟩ := X.invokevirtual hexec hown hlink hnamed hmethM hstM hkP hkPi hy (a := b) (cell := cellB) hcell
    (fun z h => by rw [h] at hobj; cases hobj) hselP hmethM habM hkP hkPi (g := g) hg (argsL := argsL) (rest := rest) (hlen _ hsigM) hstack hdg
  obtain ⟨v, B, X', hpost, hsteps⟩ := hK m meth c ⟨T.setVm vm₁, locs, cells, slots⟩ { g with stack := rest } (.invokevirtual index) mk (Value.ref b :: argsL).toArray X₁ hg hsize hdg hW (X₁.named hnamed) (hpre vm₁ X₁.warmed)
  exact ⟨v, vm₁, B, X₁.warmed, X', hpost, fun target h => hstep₁ _ fun acts => by rw [doInvoke_state]; exact hsteps.trans h⟩
abbrev vx_CVW (R : Room) (s : State) (args : Array Value) (own C : String) (index : Nat) (y : MethodName) (bytes : ByteArray) (maxL : Nat) (ret : Option FieldType) (hh : List (Nat × Nat × Nat × Nat)) (ws : List Cond) (rm : Room) (mc ms n : Nat) : Prop :=
  (rm.cells = mc ∧ rm.slots = ms ∧ rm.frames + 1 ≤ R.frames ∧ 8 + (maxL + 11) + rm.locals ≤ R.locals ∧ (∀ w ∈ ws, ∀ (a' : Array Value) (U : State), s.WarmedH U.vm → w.before a' U = true) ∧ Cond.codeWith y bytes maxL ret hh ∈ ws) ∧
  (Cond.codeWith y bytes maxL ret hh).before args s = true ∧ (Cond.initialized y.cls).before args s = true ∧ (y.cls ≠ "java/lang/invoke/MethodHandle" ∧ y.cls ≠ "java/lang/invoke/VarHandle") ∧
  (∀ sig, parseMethodDescriptor y.desc = some sig → n = sig.parameters.length) ∧ (Cond.methodLink own index y).before args s = true ∧ (Cond.instanceMethod y).before args s = true ∧ (Cond.selects C y y).before args s = true
theorem vx_cwVW {own C : String} {index maxL mc ms : Nat} {y : MethodName} {bytes : ByteArray} {ret : Option FieldType} {hh : List (Nat × Nat × Nat × Nat)} {Ts ws ws' : List Cond} {rm : Room} (n : Nat) (ht : ∀ w ∈ Ts, w.before args s = true) (hT : GoodIn Ts (wsV own index C y ws)) (hw : ws = Cond.codeWith y bytes maxL ret hh :: ws') (hrc : rm.cells = mc) (hrs : rm.slots = ms)
    (hd : y.cls = C ∧ y.cls ≠ "java/lang/invoke/MethodHandle" ∧ y.cls ≠ "java/lang/invoke/VarHandle" ∧ (parseMethodDescriptor y.desc).map (fun d => d.parameters.length) = some n) (hR : rm.frames + 1 ≤ R.frames ∧ 8 + (maxL + 11) + rm.locals ≤ R.locals) :
    vx_CVW R s args own C index y bytes maxL ret hh ws rm mc ms n := by
  obtain ⟨hC, hd⟩ := hd
  subst hC
  have ok : ∀ w ∈ wsV own index y.cls y ws, w.before args s = true := fun w h => ht w (hT w h).1
  have hG : GoodIn Ts ws := fun w h => hT w (by unfold wsV; exact List.mem_append_right _ h)
  have hc : Cond.codeWith y bytes maxL ret hh ∈ ws := by rw [hw]; exact List.mem_cons_self
  refine ⟨⟨hrc, hrs, hR.1, hR.2, pay_in ht hG, hc⟩, ht _ (hG _ hc).1, ok _ (by simp [wsV]), ⟨hd.1, hd.2.1⟩, fun sig h => ?_, ok _ (by simp [wsV]), ok _ (by simp [wsV]), ok _ (by simp [wsV])⟩
  have h2 := hd.2.2
  rw [h] at h2
  exact (Option.some.inj h2).symm
theorem vx_runVW {y : MethodName} {bytes cc : ByteArray} {maxL nL mc ms n index : Nat} {ret : Option FieldType} {hh : List (Nat × Nat × Nat × Nat)} {ws : List Cond} {rm : Room} {Pc : Array Value → State → Prop} {Qc : Array Value → State → Outcome → State → Prop} {free : Addr → Prop} {Ts : List Cond} {own C : String} {b : Addr} {As rest : List Value} {g : JFrame}
    (S : CallFix p m c cc nL s args Ts own) (hM : Met l y ws rm Pc Qc mc ms free) (cw : vx_CVW R s args own C index y bytes maxL ret hh ws rm mc ms n) (hp : PreV s H C b Pc As)
    (hg : g.method = m) (hn : As.length = n) (hsize : g.locals.size = nL) (hstack : g.stack = As.reverse ++ .ref b :: rest) (hW : 2 * g.monitorRoom + (rest.map fun v => v.category).sum ≤ 8) (hdg : decode cc g.pc = .ok (.invokevirtual index, 3)) (hf : cells + mc ≤ R.cells ∧ slots + ms ≤ R.slots) :
    va_Run p l e R s m args below meth c H locs cells slots mc ms g rest (Qc (Value.ref b :: As).toArray) free := by
  obtain ⟨⟨hrc, hrs, hfr, hlo, hws, hcw⟩, hcode, hini, hy, hlen, hl, hin, hse⟩ := cw
  have hK : Back l R p e below s args y 3 8 (PreOf R mc ms Pc) (PostOf Qc mc ms free) := va_backW (hh := hh) (bytes := bytes) (maxL := maxL) (ret := ret) hM hp.1 hrc hrs hfr hlo hws hcw (fun a' U hW => word_at hW (Or.inl (by first | rfl | simp [Cond.onTables, Cond.keeps, Cond.steady])) hini)
  obtain ⟨hx, hb, hml, ho, -⟩ := S
  obtain ⟨-, ⟨cellB, hcB, hoB, hclB⟩, hPc⟩ := hp
  intro T hT X
  obtain ⟨v, vm₁, ⟨U', l2, c2, s2⟩, hW₁, X', ⟨g', mk, t, L, e1, e2, hq, h1, hL, h2, h3⟩, st⟩ := vx_callVW X hx (C := C) (hh := hh) (bytes := bytes) (maxL := maxL) (ret := ret) ho hl hin hse hcode hy hK (by rw [hT]; exact hcB) hoB hclB hg (hsize.trans hml.symm) (argsL := As) (rest := rest) (fun sig h => hn.trans (hlen sig h)) hstack hW (by rw [hb]; exact hdg)
    (fun vm₁ hW₁ => ⟨hf.1, hf.2, hPc (T.setVm vm₁) hT hW₁⟩)
  dsimp only [Pt.U, Pt.locs, Pt.cells, Pt.slots] at X' e1 e2 h1 h2 h3 st
  subst h1; subst h2; subst h3
  exact ⟨v, (T.setVm vm₁).calling g' mk (Value.ref b :: As).toArray, t, U', L, hT, X', hL, e1, e2, hq, st⟩
section
variable {y : MethodName} {bytes cc : ByteArray} {maxL nL mc ms n index : Nat} {ret : Option FieldType} {ws : List Cond} {rm : Room} {Pc : Array Value → State → Prop} {Qc : Array Value → State → Outcome → State → Prop} {XC : String → State → State → Prop} {free : Addr → Prop} {Ts : List Cond} {own C : String} {b : Addr} {As rest : List Value} {g : JFrame}
theorem vx_runVX {hh : List (Nat × Nat × Nat × Nat)} (S : CallFix p m c cc nL s args Ts own) (hM : vx_Met l y ws rm Pc Qc XC mc ms free) (cw : vx_CVW R s args own C index y bytes maxL ret hh ws rm mc ms n) (hp : PreV s H C b Pc As)
    (hg : g.method = m) (hn : As.length = n) (hsize : g.locals.size = nL) (hstack : g.stack = As.reverse ++ .ref b :: rest) (hW : 2 * g.monitorRoom + (rest.map fun v => v.category).sum ≤ 8) (hdg : decode cc g.pc = .ok (.invokevirtual index, 3)) (hf : cells + mc ≤ R.cells ∧ slots + ms ≤ R.slots) :
    vx_Run p l e R s m args below meth c H locs cells slots mc ms g rest (Qc (Value.ref b :: As).toArray) XC free := by
  obtain ⟨⟨hrc, hrs, hfr, hlo, hws, hcw⟩, hcode, hini, hy, hlen, hl, hin, hse⟩ := cw
  have hK : vx_Back l R p e below s args y 3 8 (PreOf R mc ms Pc) (PostOf Qc mc ms free) (vx_Post XC mc ms free) := vx_backW (hh := hh) (bytes := bytes) (maxL := maxL) (ret := ret) hM hp.1 hrc hrs hfr hlo hws hcw (fun a' U hW => word_at hW (Or.inl (by first | rfl | simp [Cond.onTables, Cond.keeps, Cond.steady])) hini)
  obtain ⟨hx, hb, hml, ho, -⟩ := S
  obtain ⟨-, ⟨cellB, hcB, hoB, hclB⟩, hPc⟩ := hp
  intro T hT X
  rcases vx_callVX X hx (C := C) (hh := hh) (bytes := bytes) (maxL := maxL) (ret := ret) ho hl hin hse hcode hy hK (by rw [hT]; exact hcB) hoB hclB hg (hsize.trans hml.symm) (argsL := As) (rest := rest) (fun sig h => hn.trans (hlen sig h)) hstack hW (by rw [hb]; exact hdg)
    (fun vm₁ hW₁ => ⟨hf.1, hf.2, hPc (T.setVm vm₁) hT hW₁⟩) with ⟨v, vm₁, ⟨U', l2, c2, s2⟩, hW₁, X', ⟨g', mk, t, L, e1, e2, hq, h1, hL, h2, h3⟩, st⟩ | ⟨q, vm₁, ⟨U', l2, c2, s2⟩, hW₁, X', ⟨g', mk, t, L, E, ce, e1, e2, hq, hce, hcv, hcl, h1, hL, h2, h3⟩, st⟩
  · dsimp only [Pt.U, Pt.locs, Pt.cells, Pt.slots] at X' e1 e2 h1 h2 h3 st
    subst h1; subst h2; subst h3
    exact Or.inl ⟨v, (T.setVm vm₁).calling g' mk (Value.ref b :: As).toArray, t, U', L, hT, X', hL, e1, e2, hq, st⟩
  · dsimp only [Pt.U, Pt.locs, Pt.cells, Pt.slots] at X' e1 e2 h1 h2 h3 st hcl
    subst h1; subst h2; subst h3
    exact Or.inr ⟨q, (T.setVm vm₁).calling g' mk (Value.ref b :: As).toArray, t, U', L, E, ce, hT, X', hL, e1, e2, hq, hce, hcv, vx_cls hW₁ hcl, st⟩
theorem vx_runSX {hh : List (Nat × Nat × Nat × Nat)} (S : CallFix p m c cc nL s args Ts own) (hM : vx_Met l y ws rm Pc Qc XC mc ms free) (cw : vx_CSW R s args own index y bytes maxL ret hh ws rm mc ms n) (hp : PreS s H Pc As)
    (hg : g.method = m) (hn : As.length = n) (hsize : g.locals.size = nL) (hstack : g.stack = As.reverse ++ rest) (hW : 2 * g.monitorRoom + (rest.map fun v => v.category).sum ≤ 8) (hdg : decode cc g.pc = .ok (.invokestatic index, 3)) (hf : cells + mc ≤ R.cells ∧ slots + ms ≤ R.slots) :
    vx_Run p l e R s m args below meth c H locs cells slots mc ms g rest (Qc As.toArray) XC free := by
  obtain ⟨⟨hrc, hrs, hfr, hlo, hws, hcw⟩, hcode, hini, hy, hlen, hl, hstt⟩ := cw
  have hK : vx_Back l R p e below s args y 3 8 (PreOf R mc ms Pc) (PostOf Qc mc ms free) (vx_Post XC mc ms free) := vx_backW (hh := hh) (bytes := bytes) (maxL := maxL) (ret := ret) hM hp.1 hrc hrs hfr hlo hws hcw (fun a' U hW => word_at hW (Or.inl (by first | rfl | simp [Cond.onTables, Cond.keeps, Cond.steady])) hini)
  obtain ⟨hx, hb, hml, ho, -⟩ := S
  intro T hT X
  rcases vx_callSX X hx (hh := hh) (bytes := bytes) (maxL := maxL) (ret := ret) ho hl hstt hini hcode hy hK hg (hsize.trans hml.symm) (argsL := As) (rest := rest) (fun sig h => hn.trans (hlen sig h)) hstack hW (by rw [hb]; exact hdg)
    (fun vm₁ hW₁ => ⟨hf.1, hf.2, hp.2 (T.setVm vm₁) hT hW₁⟩) with ⟨v, vm₁, ⟨U', l2, c2, s2⟩, hW₁, X', ⟨g', mk, t, L, e1, e2, hq, h1, hL, h2, h3⟩, st⟩ | ⟨q, vm₁, ⟨U', l2, c2, s2⟩, hW₁, X', ⟨g', mk, t, L, E, ce, e1, e2, hq, hce, hcv, hcl, h1, hL, h2, h3⟩, st⟩
  · dsimp only [Pt.U, Pt.locs, Pt.cells, Pt.slots] at X' e1 e2 h1 h2 h3 st
    subst h1; subst h2; subst h3
    exact Or.inl ⟨v, (T.setVm vm₁).calling g' mk As.toArray, t, U', L, hT, X', hL, e1, e2, hq, st⟩
  · dsimp only [Pt.U, Pt.locs, Pt.cells, Pt.slots] at X' e1 e2 h1 h2 h3 st hcl
    subst h1; subst h2; subst h3
    exact Or.inr ⟨q, (T.setVm vm₁).calling g' mk As.toArray, t, U', L, E, ce, hT, X', hL, e1, e2, hq, hce, hcv, vx_cls hW₁ hcl, st⟩
end
end VXH
theorem vx_ofWH {l : Launch} {y : MethodName} {ws ws' : List Cond} {rm : Room} {Pc : Array Value → State → Prop} {Qc : Array Value → State → Outcome → State → Prop} {XC : String → State → State → Prop} {mc ms : Nat} {free : Addr → Prop} {cc : ByteArray} {maxL : Nat} {ret : Option FieldType} {hh : List (Nat × Nat × Nat × Nat)}
    (hy : plainName y.cls = true) (hw : ws = Cond.codeWith y cc maxL ret hh :: ws')
    (body : ∀ p e s m args below meth c s₁, BodyLoose p l y (headSpec ws rm) cc maxL ret e s m args below meth c s₁ → c.maxLocals = maxL → Pc args s →
      W p l e (headSpec ws rm).room s m args below meth c s.heap [] 0 0 (vx_MQ below Qc XC args s mc ms free) (entryFrame m args maxL)) : vx_Met l y ws rm Pc Qc XC mc ms free := by
  refine MetFree.of_bodyS (code := cc) (maxLocals := maxL) (ret := ret) hy ?_ ?_
  · intro args s m h hn
    obtain ⟨m9, meth, c, hn9, h1, h2, h3, h4, -, h5, h6, -⟩ := Cond.codeWith_spec (atoms_spec (ws := ws) h _ (by rw [hw]; exact List.mem_cons_self))
    cases hn.symm.trans hn9
    exact ⟨meth, c, h1, h2, h3, h4, h5, h6⟩
  · intro p e s m args below meth c s₁ B hml hP _
    have hh0 : s₁.heap = s.heap := by rw [B.state]; rfl
    obtain ⟨t, a1, o, b1, b2, b3⟩ := body p e s m args below meth c s₁ B hml hP s₁ hh0 (Stand.of_body B)
    exact ⟨t, o, a1, b1, b2, b3⟩
end
section
def RX0 : String := "CallJoin$Calls"
def TX0 : u_T := fun k => match k with
  | 0 => ("CallJoin$Calls", "size", "I", false)
  | 1 => ("CallJoin$Calls", "line", "[I", true)
  | 2 => ("CallJoin$Calls", "kind", "[I", true)
  | 3 => ("CallJoin$Calls", "point", "[I", true)
  | 4 => ("CallJoin$Calls", "words", "[I", true)
  | 5 => ("CallJoin$Calls", "road", "[I", true)
  | 6 => ("CallJoin$Calls", "time", "[I", true)
  | 7 => ("CallJoin$Calls", "event", "[I", true)
  | 8 => ("CallJoin$Calls", "reason", "[I", true)
  | 9 => ("CallJoin$Calls", "how", "[I", true)
  | _ => ("CallJoin$Calls", "marks", "[I", true)
def tyX0 : Nat → FieldType := fun k => match k with
  | 0 => .int
  | 1 => .array .int
  | 2 => .array .int
  | 3 => .array .int
  | 4 => .array .int
  | 5 => .array .int
  | 6 => .array .int
  | 7 => .array .int
  | 8 => .array .int
  | 9 => .array .int
  | _ => .array .int
theorem nmX0 : ∀ a, a < 11 → ∀ b, b < 11 → a ≠ b → (TX0 a).2.1 ≠ (TX0 b).2.1 := by decide +kernel
theorem tyX0_ok : ∀ k, k < 11 → parseFieldDescriptor (TX0 k).2.2.1 = some (tyX0 k) := by decide +kernel
set_option maxRecDepth 20000 in
theorem inX0 : ∀ w ∈ u_ws RX0 TX0 11, w ∈ lw_tbl := by decide +kernel
abbrev cX0_init : ByteArray := prog_2_method_1_code
def yX0_init : MethodName := ⟨RX0, "<init>", "()V"⟩
abbrev cX0_draft : ByteArray := prog_2_method_2_code
def yX0_draft : MethodName := ⟨RX0, "draft", "(IIIIII)I"⟩
abbrev cX0_latestTime : ByteArray := prog_2_method_3_code
def yX0_latestTime : MethodName := ⟨RX0, "latestTime", "()I"⟩
abbrev cX0_isHoax : ByteArray := prog_2_method_4_code
def yX0_isHoax : MethodName := ⟨RX0, "isHoax", "(I)Z"⟩
abbrev cX0_moveBranch : ByteArray := prog_2_method_5_code
def yX0_moveBranch : MethodName := ⟨RX0, "moveBranch", "(II)V"⟩
abbrev cX0_isUnder : ByteArray := prog_2_method_6_code
def yX0_isUnder : MethodName := ⟨RX0, "isUnder", "(II)Z"⟩
abbrev cX0_moveAll : ByteArray := prog_2_method_7_code
def yX0_moveAll : MethodName := ⟨RX0, "moveAll", "(II)V"⟩
abbrev cX0_countIn : ByteArray := prog_2_method_8_code
def yX0_countIn : MethodName := ⟨RX0, "countIn", "(I)I"⟩
abbrev cX0_memberOf : ByteArray := prog_2_method_9_code
def yX0_memberOf : MethodName := ⟨RX0, "memberOf", "(II)I"⟩
abbrev cX0_weighEvent : ByteArray := prog_2_method_10_code
def yX0_weighEvent : MethodName := ⟨RX0, "weighEvent", "(I)I"⟩
abbrev cX0_weighCall : ByteArray := prog_2_method_11_code
def yX0_weighCall : MethodName := ⟨RX0, "weighCall", "(I)I"⟩
abbrev cX0_pointOf : ByteArray := prog_2_method_12_code
def yX0_pointOf : MethodName := ⟨RX0, "pointOf", "(I)I"⟩
abbrev cX0_latestTimeOf : ByteArray := prog_2_method_13_code
def yX0_latestTimeOf : MethodName := ⟨RX0, "latestTimeOf", "(I)I"⟩
abbrev cX0_countHoaxes : ByteArray := prog_2_method_14_code
def yX0_countHoaxes : MethodName := ⟨RX0, "countHoaxes", "()I"⟩
def RX1 : String := "CallJoin$Events"
def TX1 : u_T := fun k => match k with
  | 0 => ("CallJoin$Events", "size", "I", false)
  | 1 => ("CallJoin$Events", "state", "[I", true)
  | 2 => ("CallJoin$Events", "kind", "[I", true)
  | 3 => ("CallJoin$Events", "first", "[I", true)
  | 4 => ("CallJoin$Events", "road", "[I", true)
  | 5 => ("CallJoin$Events", "from", "[I", true)
  | _ => ("CallJoin$Events", "to", "[I", true)
def tyX1 : Nat → FieldType := fun k => match k with
  | 0 => .int
  | 1 => .array .int
  | 2 => .array .int
  | 3 => .array .int
  | 4 => .array .int
  | 5 => .array .int
  | _ => .array .int
theorem nmX1 : ∀ a, a < 7 → ∀ b, b < 7 → a ≠ b → (TX1 a).2.1 ≠ (TX1 b).2.1 := by decide +kernel
theorem tyX1_ok : ∀ k, k < 7 → parseFieldDescriptor (TX1 k).2.2.1 = some (tyX1 k) := by decide +kernel
set_option maxRecDepth 20000 in
theorem inX1 : ∀ w ∈ u_ws RX1 TX1 7, w ∈ lw_tbl := by decide +kernel
abbrev cX1_init : ByteArray := prog_3_method_1_code
def yX1_init : MethodName := ⟨RX1, "<init>", "()V"⟩
abbrev cX1_begin : ByteArray := prog_3_method_2_code
def yX1_begin : MethodName := ⟨RX1, "begin", "(II)I"⟩
abbrev cX1_isWatchedFor : ByteArray := prog_3_method_3_code
def yX1_isWatchedFor : MethodName := ⟨RX1, "isWatchedFor", "(II)Z"⟩
abbrev cX1_countOpen : ByteArray := prog_3_method_4_code
def yX1_countOpen : MethodName := ⟨RX1, "countOpen", "()I"⟩
def RX2 : String := "CallJoin$Roads"
def TX2 : u_T := fun k => match k with
  | 0 => ("CallJoin$Roads", "size", "[I", true)
  | _ => ("CallJoin$Roads", "points", "[I", true)
def tyX2 : Nat → FieldType := fun k => match k with
  | 0 => .array .int
  | _ => .array .int
theorem nmX2 : ∀ a, a < 2 → ∀ b, b < 2 → a ≠ b → (TX2 a).2.1 ≠ (TX2 b).2.1 := by decide +kernel
theorem tyX2_ok : ∀ k, k < 2 → parseFieldDescriptor (TX2 k).2.2.1 = some (tyX2 k) := by decide +kernel
set_option maxRecDepth 20000 in
theorem inX2 : ∀ w ∈ u_ws RX2 TX2 2, w ∈ lw_tbl := by decide +kernel
abbrev cX2_init : ByteArray := prog_4_method_1_code
def yX2_init : MethodName := ⟨RX2, "<init>", "()V"⟩
abbrev cX2_append : ByteArray := prog_4_method_2_code
def yX2_append : MethodName := ⟨RX2, "append", "(II)I"⟩
abbrev cX2_isNear : ByteArray := prog_4_method_3_code
def yX2_isNear : MethodName := ⟨RX2, "isNear", "(IIII)Z"⟩
abbrev cX2_isNearPiece : ByteArray := prog_4_method_4_code
def yX2_isNearPiece : MethodName := ⟨RX2, "isNearPiece", "(III)Z"⟩
def RX3 : String := "CallJoin$Rules"
def TX3 : u_T := fun k => match k with
  | 0 => ("CallJoin$Rules", "distance", "[I", true)
  | 1 => ("CallJoin$Rules", "span", "[I", true)
  | 2 => ("CallJoin$Rules", "needOver", "[I", true)
  | 3 => ("CallJoin$Rules", "needUnder", "[I", true)
  | _ => ("CallJoin$Rules", "weights", "[I", true)
def tyX3 : Nat → FieldType := fun k => match k with
  | 0 => .array .int
  | 1 => .array .int
  | 2 => .array .int
  | 3 => .array .int
  | _ => .array .int
theorem nmX3 : ∀ a, a < 5 → ∀ b, b < 5 → a ≠ b → (TX3 a).2.1 ≠ (TX3 b).2.1 := by decide +kernel
theorem tyX3_ok : ∀ k, k < 5 → parseFieldDescriptor (TX3 k).2.2.1 = some (tyX3 k) := by decide +kernel
set_option maxRecDepth 20000 in
theorem inX3 : ∀ w ∈ u_ws RX3 TX3 5, w ∈ lw_tbl := by decide +kernel
abbrev cX3_init : ByteArray := prog_5_method_1_code
def yX3_init : MethodName := ⟨RX3, "<init>", "()V"⟩
abbrev cX3_weigh : ByteArray := prog_5_method_2_code
def yX3_weigh : MethodName := ⟨RX3, "weigh", "(II)I"⟩
abbrev cX3_meetsNeed : ByteArray := prog_5_method_3_code
def yX3_meetsNeed : MethodName := ⟨RX3, "meetsNeed", "(III)Z"⟩
def RX4 : String := "CallJoin"
def TX4 : u_T := fun k => match k with
  | 0 => ("CallJoin", "rules", "LCallJoin$Rules;", true)
  | 1 => ("CallJoin", "roads", "LCallJoin$Roads;", true)
  | 2 => ("CallJoin", "calls", "LCallJoin$Calls;", true)
  | _ => ("CallJoin", "events", "LCallJoin$Events;", true)
def tyX4 : Nat → FieldType := fun k => match k with
  | 0 => .object "CallJoin$Rules"
  | 1 => .object "CallJoin$Roads"
  | 2 => .object "CallJoin$Calls"
  | _ => .object "CallJoin$Events"
theorem nmX4 : ∀ a, a < 4 → ∀ b, b < 4 → a ≠ b → (TX4 a).2.1 ≠ (TX4 b).2.1 := by decide +kernel
theorem tyX4_ok : ∀ k, k < 4 → parseFieldDescriptor (TX4 k).2.2.1 = some (tyX4 k) := by decide +kernel
set_option maxRecDepth 20000 in
theorem inX4 : ∀ w ∈ u_ws RX4 TX4 4, w ∈ lw_tbl := by decide +kernel
abbrev cX4_init : ByteArray := prog_1_method_1_code
def yX4_init : MethodName := ⟨RX4, "<init>", "()V"⟩
abbrev cX4_rule : ByteArray := prog_1_method_2_code
def yX4_rule : MethodName := ⟨RX4, "rule", "(IIIII)V"⟩
abbrev cX4_weight : ByteArray := prog_1_method_3_code
def yX4_weight : MethodName := ⟨RX4, "weight", "(III)V"⟩
abbrev cX4_point : ByteArray := prog_1_method_4_code
def yX4_point : MethodName := ⟨RX4, "point", "(II)I"⟩
abbrev cX4_call : ByteArray := prog_1_method_5_code
def yX4_call : MethodName := ⟨RX4, "call", "(IIIIII)I"⟩
abbrev cX4_reasonFor : ByteArray := prog_1_method_6_code
def yX4_reasonFor : MethodName := ⟨RX4, "reasonFor", "(IIIIII)I"⟩
abbrev cX4_mark : ByteArray := prog_1_method_7_code
def yX4_mark : MethodName := ⟨RX4, "mark", "(II)V"⟩
abbrev cX4_split : ByteArray := prog_1_method_8_code
def yX4_split : MethodName := ⟨RX4, "split", "(I)I"⟩
abbrev cX4_merge : ByteArray := prog_1_method_9_code
def yX4_merge : MethodName := ⟨RX4, "merge", "(II)I"⟩
abbrev cX4_watch : ByteArray := prog_1_method_10_code
def yX4_watch : MethodName := ⟨RX4, "watch", "(IIII)V"⟩
abbrev cX4_state : ByteArray := prog_1_method_11_code
def yX4_state : MethodName := ⟨RX4, "state", "(II)V"⟩
abbrev cX4_share : ByteArray := prog_1_method_12_code
def yX4_share : MethodName := ⟨RX4, "share", "(II)I"⟩
abbrev cX4_agree : ByteArray := prog_1_method_13_code
def yX4_agree : MethodName := ⟨RX4, "agree", "(II)I"⟩
abbrev cX4_callAt : ByteArray := prog_1_method_14_code
def yX4_callAt : MethodName := ⟨RX4, "callAt", "(II)I"⟩
abbrev cX4_eventAt : ByteArray := prog_1_method_15_code
def yX4_eventAt : MethodName := ⟨RX4, "eventAt", "(II)I"⟩
abbrev cX4_member : ByteArray := prog_1_method_16_code
def yX4_member : MethodName := ⟨RX4, "member", "(II)I"⟩
abbrev cX4_count : ByteArray := prog_1_method_17_code
def yX4_count : MethodName := ⟨RX4, "count", "(I)I"⟩
abbrev cX4_isBelow : ByteArray := prog_1_method_18_code
def yX4_isBelow : MethodName := ⟨RX4, "isBelow", "(II)Z"⟩
abbrev cX4_needKnown : ByteArray := prog_1_method_19_code
def yX4_needKnown : MethodName := ⟨RX4, "needKnown", "(Z)V"⟩
abbrev cX4_needRange : ByteArray := prog_1_method_20_code
def yX4_needRange : MethodName := ⟨RX4, "needRange", "(Z)V"⟩
abbrev cX4_needState : ByteArray := prog_1_method_21_code
def yX4_needState : MethodName := ⟨RX4, "needState", "(Z)V"⟩
abbrev cX4_needRoom : ByteArray := prog_1_method_22_code
def yX4_needRoom : MethodName := ⟨RX4, "needRoom", "(Z)V"⟩
abbrev cX4_needCallData : ByteArray := prog_1_method_23_code
def yX4_needCallData : MethodName := ⟨RX4, "needCallData", "(IIIII)V"⟩
abbrev cX4_needTwoCalls : ByteArray := prog_1_method_24_code
def yX4_needTwoCalls : MethodName := ⟨RX4, "needTwoCalls", "(II)V"⟩
abbrev cX4_isInOpenEvent : ByteArray := prog_1_method_25_code
def yX4_isInOpenEvent : MethodName := ⟨RX4, "isInOpenEvent", "(I)Z"⟩
abbrev cX4_canBeReason : ByteArray := prog_1_method_26_code
def yX4_canBeReason : MethodName := ⟨RX4, "canBeReason", "(I)Z"⟩
abbrev cX4_seekReason : ByteArray := prog_1_method_27_code
def yX4_seekReason : MethodName := ⟨RX4, "seekReason", "(I)V"⟩
abbrev cX4_takeReason : ByteArray := prog_1_method_28_code
def yX4_takeReason : MethodName := ⟨RX4, "takeReason", "(III)Z"⟩
abbrev cX4_latestOfLine : ByteArray := prog_1_method_29_code
def yX4_latestOfLine : MethodName := ⟨RX4, "latestOfLine", "(I)I"⟩
abbrev cX4_firstOnStretch : ByteArray := prog_1_method_30_code
def yX4_firstOnStretch : MethodName := ⟨RX4, "firstOnStretch", "(I)I"⟩
abbrev cX4_isOnStretch : ByteArray := prog_1_method_31_code
def yX4_isOnStretch : MethodName := ⟨RX4, "isOnStretch", "(II)Z"⟩
abbrev cX4_nearestByPlace : ByteArray := prog_1_method_32_code
def yX4_nearestByPlace : MethodName := ⟨RX4, "nearestByPlace", "(I)I"⟩
abbrev cX4_greatestShare : ByteArray := prog_1_method_33_code
def yX4_greatestShare : MethodName := ⟨RX4, "greatestShare", "(I)I"⟩
abbrev cX4_isCandidate : ByteArray := prog_1_method_34_code
def yX4_isCandidate : MethodName := ⟨RX4, "isCandidate", "(II)Z"⟩
abbrev cX4_agreement : ByteArray := prog_1_method_35_code
def yX4_agreement : MethodName := ⟨RX4, "agreement", "(II)I"⟩
abbrev cX4_isWithinSpan : ByteArray := prog_1_method_36_code
def yX4_isWithinSpan : MethodName := ⟨RX4, "isWithinSpan", "(II)Z"⟩
abbrev cX4_eastOf : ByteArray := prog_1_method_37_code
def yX4_eastOf : MethodName := ⟨RX4, "eastOf", "(I)I"⟩
abbrev cX4_northOf : ByteArray := prog_1_method_38_code
def yX4_northOf : MethodName := ⟨RX4, "northOf", "(I)I"⟩
abbrev cX4_squareBetween : ByteArray := prog_1_method_39_code
def yX4_squareBetween : MethodName := ⟨RX4, "squareBetween", "(II)J"⟩
def RX6 : String := "CallJoinModel"
def TX6 : u_T := fun k => match k with
  | 0 => ("CallJoinModel", "thrown", "I", false)
  | 1 => ("CallJoinModel", "distance", "[I", true)
  | 2 => ("CallJoinModel", "span", "[I", true)
  | 3 => ("CallJoinModel", "over", "[I", true)
  | 4 => ("CallJoinModel", "under", "[I", true)
  | 5 => ("CallJoinModel", "weights", "[I", true)
  | 6 => ("CallJoinModel", "pointCount", "[I", true)
  | 7 => ("CallJoinModel", "points", "[I", true)
  | 8 => ("CallJoinModel", "calls", "I", false)
  | 9 => ("CallJoinModel", "events", "I", false)
  | 10 => ("CallJoinModel", "lineOf", "[I", true)
  | 11 => ("CallJoinModel", "kindOf", "[I", true)
  | 12 => ("CallJoinModel", "pointOf", "[I", true)
  | 13 => ("CallJoinModel", "wordsOf", "[I", true)
  | 14 => ("CallJoinModel", "timeOf", "[I", true)
  | 15 => ("CallJoinModel", "eventOf", "[I", true)
  | 16 => ("CallJoinModel", "reasonOf", "[I", true)
  | 17 => ("CallJoinModel", "marksOf", "[I", true)
  | 18 => ("CallJoinModel", "howOf", "[I", true)
  | 19 => ("CallJoinModel", "stateOf", "[I", true)
  | 20 => ("CallJoinModel", "watched", "[I", true)
  | 21 => ("CallJoinModel", "watchedFrom", "[I", true)
  | 22 => ("CallJoinModel", "watchedTo", "[I", true)
  | _ => ("CallJoinModel", "how", "I", false)
def tyX6 : Nat → FieldType := fun k => match k with
  | 0 => .int
  | 1 => .array .int
  | 2 => .array .int
  | 3 => .array .int
  | 4 => .array .int
  | 5 => .array .int
  | 6 => .array .int
  | 7 => .array .int
  | 8 => .int
  | 9 => .int
  | 10 => .array .int
  | 11 => .array .int
  | 12 => .array .int
  | 13 => .array .int
  | 14 => .array .int
  | 15 => .array .int
  | 16 => .array .int
  | 17 => .array .int
  | 18 => .array .int
  | 19 => .array .int
  | 20 => .array .int
  | 21 => .array .int
  | 22 => .array .int
  | _ => .int
theorem nmX6 : ∀ a, a < 24 → ∀ b, b < 24 → a ≠ b → (TX6 a).2.1 ≠ (TX6 b).2.1 := by decide +kernel
theorem tyX6_ok : ∀ k, k < 24 → parseFieldDescriptor (TX6 k).2.2.1 = some (tyX6 k) := by decide +kernel
set_option maxRecDepth 20000 in
theorem inX6 : ∀ w ∈ u_ws RX6 TX6 24, w ∈ lw_tbl := by decide +kernel
abbrev cX6_init : ByteArray := prog_7_method_1_code
def yX6_init : MethodName := ⟨RX6, "<init>", "()V"⟩
abbrev cX6_thrown : ByteArray := prog_7_method_2_code
def yX6_thrown : MethodName := ⟨RX6, "thrown", "()I"⟩
abbrev cX6_throwing : ByteArray := prog_7_method_3_code
def yX6_throwing : MethodName := ⟨RX6, "throwing", "(ZZZ)Z"⟩
abbrev cX6_in : ByteArray := prog_7_method_4_code
def yX6_in : MethodName := ⟨RX6, "in", "(III)Z"⟩
abbrev cX6_isKind : ByteArray := prog_7_method_5_code
def yX6_isKind : MethodName := ⟨RX6, "isKind", "(I)Z"⟩
abbrev cX6_isRoad : ByteArray := prog_7_method_6_code
def yX6_isRoad : MethodName := ⟨RX6, "isRoad", "(I)Z"⟩
abbrev cX6_isCall : ByteArray := prog_7_method_7_code
def yX6_isCall : MethodName := ⟨RX6, "isCall", "(I)Z"⟩
abbrev cX6_isEvent : ByteArray := prog_7_method_8_code
def yX6_isEvent : MethodName := ⟨RX6, "isEvent", "(I)Z"⟩
abbrev cX6_isPoint : ByteArray := prog_7_method_9_code
def yX6_isPoint : MethodName := ⟨RX6, "isPoint", "(I)Z"⟩
abbrev cX6_rule : ByteArray := prog_7_method_10_code
def yX6_rule : MethodName := ⟨RX6, "rule", "(IIIII)V"⟩
abbrev cX6_weight : ByteArray := prog_7_method_11_code
def yX6_weight : MethodName := ⟨RX6, "weight", "(III)V"⟩
abbrev cX6_point : ByteArray := prog_7_method_12_code
def yX6_point : MethodName := ⟨RX6, "point", "(II)I"⟩
abbrev cX6_squareOf : ByteArray := prog_7_method_13_code
def yX6_squareOf : MethodName := ⟨RX6, "squareOf", "(II)J"⟩
abbrev cX6_sum : ByteArray := prog_7_method_14_code
def yX6_sum : MethodName := ⟨RX6, "sum", "(II)I"⟩
abbrev cX6_isEnough : ByteArray := prog_7_method_15_code
def yX6_isEnough : MethodName := ⟨RX6, "isEnough", "(III)Z"⟩
abbrev cX6_meets : ByteArray := prog_7_method_16_code
def yX6_meets : MethodName := ⟨RX6, "meets", "(IIIII)I"⟩
abbrev cX6_isOpen : ByteArray := prog_7_method_17_code
def yX6_isOpen : MethodName := ⟨RX6, "isOpen", "(I)Z"⟩
abbrev cX6_isHoax : ByteArray := prog_7_method_18_code
def yX6_isHoax : MethodName := ⟨RX6, "isHoax", "(I)Z"⟩
abbrev cX6_firstOf : ByteArray := prog_7_method_19_code
def yX6_firstOf : MethodName := ⟨RX6, "firstOf", "(I)I"⟩
abbrev cX6_isBeside : ByteArray := prog_7_method_20_code
def yX6_isBeside : MethodName := ⟨RX6, "isBeside", "(III)Z"⟩
abbrev cX6_isOn : ByteArray := prog_7_method_21_code
def yX6_isOn : MethodName := ⟨RX6, "isOn", "(III)Z"⟩
abbrev cX6_again : ByteArray := prog_7_method_22_code
def yX6_again : MethodName := ⟨RX6, "again", "(III)I"⟩
abbrev cX6_onStretch : ByteArray := prog_7_method_23_code
def yX6_onStretch : MethodName := ⟨RX6, "onStretch", "(III)I"⟩
abbrev cX6_isBetter : ByteArray := prog_7_method_24_code
def yX6_isBetter : MethodName := ⟨RX6, "isBetter", "(IIIII)Z"⟩
abbrev cX6_agreeing : ByteArray := prog_7_method_25_code
def yX6_agreeing : MethodName := ⟨RX6, "agreeing", "(IIIII)I"⟩
abbrev cX6_reason : ByteArray := prog_7_method_26_code
def yX6_reason : MethodName := ⟨RX6, "reason", "(IIIIII)I"⟩
abbrev cX6_isRange : ByteArray := prog_7_method_27_code
def yX6_isRange : MethodName := ⟨RX6, "isRange", "(III)Z"⟩
abbrev cX6_isKnown : ByteArray := prog_7_method_28_code
def yX6_isKnown : MethodName := ⟨RX6, "isKnown", "(II)Z"⟩
abbrev cX6_call : ByteArray := prog_7_method_29_code
def yX6_call : MethodName := ⟨RX6, "call", "(IIIIII)I"⟩
abbrev cX6_newEvent : ByteArray := prog_7_method_30_code
def yX6_newEvent : MethodName := ⟨RX6, "newEvent", "()I"⟩
abbrev cX6_reasonFor : ByteArray := prog_7_method_31_code
def yX6_reasonFor : MethodName := ⟨RX6, "reasonFor", "(IIIIII)I"⟩
abbrev cX6_mark : ByteArray := prog_7_method_32_code
def yX6_mark : MethodName := ⟨RX6, "mark", "(II)V"⟩
abbrev cX6_split : ByteArray := prog_7_method_33_code
def yX6_split : MethodName := ⟨RX6, "split", "(I)I"⟩
abbrev cX6_size : ByteArray := prog_7_method_34_code
def yX6_size : MethodName := ⟨RX6, "size", "(I)I"⟩
abbrev cX6_merge : ByteArray := prog_7_method_35_code
def yX6_merge : MethodName := ⟨RX6, "merge", "(II)I"⟩
abbrev cX6_watch : ByteArray := prog_7_method_36_code
def yX6_watch : MethodName := ⟨RX6, "watch", "(IIII)V"⟩
abbrev cX6_state : ByteArray := prog_7_method_37_code
def yX6_state : MethodName := ⟨RX6, "state", "(II)V"⟩
abbrev cX6_share : ByteArray := prog_7_method_38_code
def yX6_share : MethodName := ⟨RX6, "share", "(II)I"⟩
abbrev cX6_agree : ByteArray := prog_7_method_39_code
def yX6_agree : MethodName := ⟨RX6, "agree", "(II)I"⟩
abbrev cX6_callAt : ByteArray := prog_7_method_40_code
def yX6_callAt : MethodName := ⟨RX6, "callAt", "(II)I"⟩
abbrev cX6_weightOf : ByteArray := prog_7_method_41_code
def yX6_weightOf : MethodName := ⟨RX6, "weightOf", "(I)I"⟩
abbrev cX6_placeOf : ByteArray := prog_7_method_42_code
def yX6_placeOf : MethodName := ⟨RX6, "placeOf", "(I)I"⟩
abbrev cX6_latestOf : ByteArray := prog_7_method_43_code
def yX6_latestOf : MethodName := ⟨RX6, "latestOf", "(I)I"⟩
abbrev cX6_eventAt : ByteArray := prog_7_method_44_code
def yX6_eventAt : MethodName := ⟨RX6, "eventAt", "(II)I"⟩
abbrev cX6_member : ByteArray := prog_7_method_45_code
def yX6_member : MethodName := ⟨RX6, "member", "(II)I"⟩
abbrev cX6_count : ByteArray := prog_7_method_46_code
def yX6_count : MethodName := ⟨RX6, "count", "(I)I"⟩
def RL : String := "CallJoinLaw"
abbrev cL_rule : ByteArray := method_3_code
def yL_rule : MethodName := ⟨RL, "rule", "(LCallJoin;IIIII)I"⟩
abbrev cL_weight : ByteArray := method_4_code
def yL_weight : MethodName := ⟨RL, "weight", "(LCallJoin;III)I"⟩
abbrev cL_point : ByteArray := method_5_code
def yL_point : MethodName := ⟨RL, "point", "(LCallJoin;II[J)I"⟩
abbrev cL_call : ByteArray := method_6_code
def yL_call : MethodName := ⟨RL, "call", "(LCallJoin;IIIIII[J)I"⟩
abbrev cL_reasonFor : ByteArray := method_7_code
def yL_reasonFor : MethodName := ⟨RL, "reasonFor", "(LCallJoin;IIIIII[J)I"⟩
abbrev cL_mark : ByteArray := method_8_code
def yL_mark : MethodName := ⟨RL, "mark", "(LCallJoin;II)I"⟩
abbrev cL_split : ByteArray := method_9_code
def yL_split : MethodName := ⟨RL, "split", "(LCallJoin;I[J)I"⟩
abbrev cL_merge : ByteArray := method_10_code
def yL_merge : MethodName := ⟨RL, "merge", "(LCallJoin;II[J)I"⟩
abbrev cL_watch : ByteArray := method_11_code
def yL_watch : MethodName := ⟨RL, "watch", "(LCallJoin;IIII)I"⟩
abbrev cL_state : ByteArray := method_12_code
def yL_state : MethodName := ⟨RL, "state", "(LCallJoin;II)I"⟩
abbrev cL_share : ByteArray := method_13_code
def yL_share : MethodName := ⟨RL, "share", "(LCallJoin;II[J)I"⟩
abbrev cL_agree : ByteArray := method_14_code
def yL_agree : MethodName := ⟨RL, "agree", "(LCallJoin;II[J)I"⟩
abbrev cL_callAt : ByteArray := method_15_code
def yL_callAt : MethodName := ⟨RL, "callAt", "(LCallJoin;II[J)I"⟩
abbrev cL_eventAt : ByteArray := method_16_code
def yL_eventAt : MethodName := ⟨RL, "eventAt", "(LCallJoin;II[J)I"⟩
abbrev cL_member : ByteArray := method_17_code
def yL_member : MethodName := ⟨RL, "member", "(LCallJoin;II[J)I"⟩
abbrev cL_count : ByteArray := method_18_code
def yL_count : MethodName := ⟨RL, "count", "(LCallJoin;I[J)I"⟩
abbrev cL_law : ByteArray := code
def yL_law : MethodName := ⟨RL, "law", "([I)Z"⟩
def RJ7 : String := "java/util/Arrays"
abbrev cJ7_fill : ByteArray := prog_18_method_103_code
def yJ7_fill : MethodName := ⟨RJ7, "fill", "([II)V"⟩
abbrev vwCl : List vw_C := [(RX0, TX0, 11), (RX1, TX1, 7), (RX2, TX2, 2), (RX3, TX3, 5), (RX4, TX4, 4), (RX6, TX6, 24)]
end
section
abbrev g_S : Type := (Nat → Int32) × (Nat → Nat → Int32)
def g_sI (u : g_S) (k : Nat) (v : Int32) : g_S := (upd u.1 k v, u.2)
def g_sA (u : g_S) (k : Nat) (i v : Int32) : g_S := (u.1, va_up u.2 k (upd (u.2 k) i.toNatClampNeg v))
def gl {α β : Type} (x : α) (k : α → Option β) : Option β := k x
def ck {β : Type} (i : Int32) (n : Nat) (x : Option β) : Option β := if i < 0 ∨ n ≤ i.toNatClampNeg then none else x
theorem gl_e {α β : Type} {x : α} {k : α → Option β} {r : β} (h : gl x k = some r) : ∃ y, y = x ∧ k y = some r := ⟨x, rfl, h⟩
theorem ck_e {β : Type} {i : Int32} {n : Nat} {x : Option β} {r : β} (h : ck i n x = some r) : vp_in i n ∧ x = some r := by
  unfold ck at h
  by_cases q : i < 0 ∨ n ≤ i.toNatClampNeg
  · rw [if_pos q] at h; cases h
  · rw [if_neg q] at h; exact ⟨q, h⟩
theorem ck_in {β : Type} {i : Int32} {n : Nat} {x : Option β} (h : vp_in i n) : ck i n x = x := by
  unfold ck; rw [if_neg h]
theorem bi_e {α β : Type} {o : Option α} {k : α → Option β} {r : β} (h : o.bind k = some r) : ∃ v, o = some v ∧ k v = some r := by
  cases o with
  | none => cases h
  | some v => exact ⟨v, rfl, h⟩
theorem if_t {β : Type} {c : Prop} [Decidable c] {a b : Option β} {r : β} (hc : c) (h : (if c then a else b) = some r) : a = some r := by rwa [if_pos hc] at h
theorem if_f {β : Type} {c : Prop} [Decidable c] {a b : Option β} {r : β} (hc : ¬ c) (h : (if c then a else b) = some r) : b = some r := by rwa [if_neg hc] at h
theorem if_z {β : Type} {c : Prop} [Decidable c] {a : Option β} {r : β} (h : (if c then none else a) = some r) : ¬ c ∧ a = some r := by
  by_cases q : c
  · rw [if_pos q] at h; cases h
  · rw [if_neg q] at h; exact ⟨q, h⟩
theorem if_s {β : Type} {c : Prop} [Decidable c] {a : Option β} {r : β} (h : (if c then a else none) = some r) : c ∧ a = some r := by
  by_cases q : c
  · rw [if_pos q] at h; exact ⟨q, h⟩
  · rw [if_neg q] at h; cases h
theorem if_nn {β : Type} {c : Prop} [Decidable c] {a b : Option β} {r : β} (hc : c) (h : (if ¬ c then a else b) = some r) : b = some r := by rwa [if_neg (fun q => q hc)] at h
theorem nar_z {v : Int32} (h : v = 0 ∨ v = 1) : narrow .boolean (.int v) = .int v := by rcases h with rfl | rfl <;> rfl
def gT : List Cond := lw_tbl.filter goodWord
theorem gT_of {w : Cond} (h : w ∈ lw_tbl) (hg : goodWord w = true) : w ∈ gT := List.mem_filter.mpr ⟨h, hg⟩
theorem gT_g {w : Cond} (h : w ∈ gT) : w ∈ gT ∧ ((w.onTables && w.keeps) = true ∨ ∃ ty, w = .arrayClass ty) := ⟨h, good_of_word (List.mem_filter.mp h).2⟩
theorem gT_c {c w : Cond} (h : c ∈ gT) (hw : w ∈ c :: gT) : w ∈ gT := (List.mem_cons.mp hw).elim (fun e => e ▸ h) id
theorem gT_good {c : Cond} (h : c ∈ gT) : GoodIn gT (c :: gT) := fun _ hw => gT_g (gT_c h hw)
theorem gT_V {own C : String} {idx : Nat} {y : MethodName} {c : Cond} (h1 : Cond.methodLink own idx y ∈ gT) (h2 : Cond.instanceMethod y ∈ gT) (h3 : Cond.selects C y y ∈ gT) (h4 : Cond.initialized C ∈ gT) (h5 : c ∈ gT) : GoodIn gT (wsV own idx C y (c :: gT)) := fun w hw => by
  refine gT_g ?_
  unfold wsV at hw
  rcases List.mem_append.mp hw with q | q
  · simp only [List.mem_cons, List.not_mem_nil, or_false] at q
    rcases q with rfl | rfl | rfl | rfl
    · exact h1
    · exact h2
    · exact h3
    · exact h4
  · exact gT_c h5 q
theorem gT_S {own : String} {idx : Nat} {y : MethodName} {c : Cond} (h1 : Cond.methodLink own idx y ∈ gT) (h2 : Cond.static y ∈ gT) (h3 : Cond.initialized own ∈ gT) (h5 : c ∈ gT) : GoodIn gT (wsS own idx y (c :: gT)) := fun w hw => by
  refine gT_g ?_
  unfold wsS at hw
  rcases List.mem_append.mp hw with q | q
  · simp only [List.mem_cons, List.not_mem_nil, or_false] at q
    rcases q with rfl | rfl | rfl
    · exact h1
    · exact h2
    · exact h3
  · exact gT_c h5 q
def rg (as : List Nat) (sz : Nat) : Nat → Prop := fun q => q ∈ as ∨ sz ≤ q
theorem rg_mono {as : List Nat} {a b q : Nat} (h : a ≤ b) (hq : rg as b q) : rg as a q := hq.elim Or.inl (fun x => Or.inr (Nat.le_trans h x))
theorem gw_D {ws : va_W} {as : List Nat} (h : ws.map Prod.fst = as) (hn : as.Nodup) (sz : Nat) : va_D (rg as sz) ws := by
  subst h
  refine ⟨fun i j x y hi hj hxy => ?_, fun k q hk => Or.inl (List.mem_map.mpr ⟨q, List.mem_of_getElem? hk, rfl⟩)⟩
  have h1 : (ws.map Prod.fst)[i]? = some x.1 := by rw [List.getElem?_map, hi]; rfl
  have h2 : (ws.map Prod.fst)[j]? = some x.1 := by rw [List.getElem?_map, hj, hxy]; rfl
  have hil : i < (ws.map Prod.fst).length := (List.getElem?_eq_some_iff.mp h1).1
  exact (List.getElem?_inj hil hn).mp (h1.trans h2.symm)
def gw_ok (X : (Nat → Prop) → State → Heap → Prop) : Prop :=
  (∀ (A : Nat → Prop) (U V : State) (H : Heap), V.vm = U.vm → X A U H → X A V H) ∧
  (∀ (A : Nat → Prop) (s U : State) (H : Heap), s.WarmedH U.vm → X A s H → X A U H) ∧
  (∀ (A : Nat → Prop) (U : State) (H H1 : Heap), (∀ a : Nat, a < H.size → ¬ A a → H1[a]? = H[a]?) → X A U H → X A U H1) ∧
  (∀ (A B : Nat → Prop) (U : State) (H : Heap), (∀ q, B q → A q) → X A U H → X B U H)
def gw_C (D : va_G) (cl : List vw_C) (tys : List (ClassId × FieldType)) (as : List Nat) (X : (Nat → Prop) → State → Heap → Prop) (s : State) : Prop :=
  va_K D cl tys s ∧ as.Nodup ∧ X (rg as s.heap.size) s s.heap
def gw_V {σ : Type} (D : va_G) (cl : List vw_C) (as : List Nat) (wd : σ → va_W) (s : State) (u : σ) (H : Heap) (locs : List Loc) : Prop :=
  va_P D cl (wd u) H ∧ va_S (rg as s.heap.size) s.heap H locs
def gw_pre {σ : Type} (D : va_G) (cl : List vw_C) (tys : List (ClassId × FieldType)) (as : List Nat) (X : (Nat → Prop) → State → Heap → Prop) (wd : σ → va_W) (sz : Nat) (u : σ) (U : State) : Prop :=
  U.heap.size = sz ∧ va_P D cl (wd u) U.heap ∧ gw_C D cl tys as X U
theorem gw_blind {σ : Type} {D : va_G} {cl : List vw_C} {tys : List (ClassId × FieldType)} {as : List Nat} {X : (Nat → Prop) → State → Heap → Prop} {wd : σ → va_W} {sz : Nat} {u : σ} {av : List Value} (hX : gw_ok X) : FrameBlind (va_Pc av (gw_pre D cl tys as X wd sz u)) := by
  intro a U g mk h
  obtain ⟨h0, h1, h2, h3, h4, h5⟩ := h
  exact ⟨h0, h1, h2, va_K.moved (u := U) (U := U.calling g mk a) (Vm.Alike.refl U.vm) h3, h4, hX.1 _ U (U.calling g mk a) _ rfl h5⟩
theorem gw_pass {σ : Type} {D : va_G} {cl : List vw_C} {tys : List (ClassId × FieldType)} {as : List Nat} {X : (Nat → Prop) → State → Heap → Prop} {wd : σ → va_W} {s : State} {u : σ} {H : Heap} {locs : List Loc} (hX : gw_ok X) (C : gw_C D cl tys as X s) (V : gw_V D cl as wd s u H locs)
    (U : State) (hU : U.heap = H) (hW : s.WarmedH U.vm) : gw_pre D cl tys as X wd H.size u U := by
  obtain ⟨hK, hn, hx⟩ := C
  subst hU
  refine ⟨rfl, V.1, va_K.moved hW.alike hK, hn, ?_⟩
  have h1 := hX.2.2.1 _ s s.heap U.heap V.2.2.1 hx
  have h2 := hX.2.2.2 _ (rg as U.heap.size) s U.heap (fun q h => rg_mono V.2.1 h) h1
  exact hX.2.1 _ s U _ hW h2
theorem gw_preS {σ : Type} {D : va_G} {cl : List vw_C} {tys : List (ClassId × FieldType)} {as : List Nat} {X : (Nat → Prop) → State → Heap → Prop} {wd : σ → va_W} {s : State} {u : σ} {H : Heap} {locs : List Loc} (hX : gw_ok X) (C : gw_C D cl tys as X s) (V : gw_V D cl as wd s u H locs) (As : List Value) :
    PreS s H (va_Pc As (gw_pre D cl tys as X wd H.size u)) As := ⟨gw_blind hX, fun U hU hW => ⟨rfl, gw_pass hX C V U hU hW⟩⟩
theorem gw_preV {σ : Type} {D : va_G} {cl : List vw_C} {tys : List (ClassId × FieldType)} {as : List Nat} {X : (Nat → Prop) → State → Heap → Prop} {wd : σ → va_W} {s : State} {u : σ} {H : Heap} {locs : List Loc} (hX : gw_ok X) (C : gw_C D cl tys as X s) (V : gw_V D cl as wd s u H locs) {b q0 ci : Nat} {q : vw_C} {fs : List Value} (As : List Value)
    (hc : cl[ci]? = some q) (he : (wd u)[q0]? = some (b, .inr (ci, fs))) : PreV s H q.1 b (va_Pc (Value.ref b :: As) (gw_pre D cl tys as X wd H.size u)) As :=
  ⟨gw_blind hX, va_recv C.1 V.1 hc he, fun U hU hW => ⟨rfl, gw_pass hX C V U hU hW⟩⟩
def exN (k : Nat) : String := match k with
  | 1 => "java/lang/IllegalArgumentException"
  | 2 => "java/lang/IndexOutOfBoundsException"
  | 3 => "java/lang/IllegalStateException"
  | 4 => "java/lang/UnsupportedOperationException"
  | _ => "java/lang/ArithmeticException"
section GWM
variable {σ : Type} (D : va_G) (cl : List vw_C) (tys : List (ClassId × FieldType)) (as : List Nat) (X : (Nat → Prop) → State → Heap → Prop) (wd : σ → va_W)
def gw_Pi (r : Int32) (u' : σ) : Int32 → σ → Prop := fun x w => x = r ∧ w = u'
def gw_Pl (r : Int64) (u' : σ) : Int64 → σ → Prop := fun x w => x = r ∧ w = u'
def gw_Pv (u' : σ) : σ → Prop := fun w => w = u'
def gw_W (w : σ) (t : State) : Prop := va_P D cl (wd w) t.heap
def gw_Mi (l : Launch) (y : MethodName) (ws : List Cond) (rm : Room) (sz : Nat) (u : σ) (As : List Value) (r : Int32) (u' : σ) : Prop :=
  Met l y ws rm (va_Pc As (gw_pre D cl tys as X wd sz u)) (va_Qi (gw_Pi r u') (gw_W D cl wd) (rg as sz)) 0 0 (rg as sz)
def gw_Ml (l : Launch) (y : MethodName) (ws : List Cond) (rm : Room) (sz : Nat) (u : σ) (As : List Value) (r : Int64) (u' : σ) : Prop :=
  Met l y ws rm (va_Pc As (gw_pre D cl tys as X wd sz u)) (va_Ql (gw_Pl r u') (gw_W D cl wd) (rg as sz)) 0 0 (rg as sz)
def gw_Mv (l : Launch) (y : MethodName) (ws : List Cond) (rm : Room) (sz : Nat) (u : σ) (As : List Value) (u' : σ) : Prop :=
  Met l y ws rm (va_Pc As (gw_pre D cl tys as X wd sz u)) (va_Qv (gw_Pv u') (gw_W D cl wd) (rg as sz)) 0 0 (rg as sz)
end GWM
abbrev gw_Ei {σ : Type} (D : va_G) (cl : List vw_C) (as : List Nat) (wd : σ → va_W) (below : List Frame) (args : Array Value) (s : State) (r : Int32) (u' : σ) : State → Prop := MQ below (va_Qi (gw_Pi r u') (gw_W D cl wd) (rg as s.heap.size)) args s 0 0 (rg as s.heap.size)
abbrev gw_El {σ : Type} (D : va_G) (cl : List vw_C) (as : List Nat) (wd : σ → va_W) (below : List Frame) (args : Array Value) (s : State) (r : Int64) (u' : σ) : State → Prop := MQ below (va_Ql (gw_Pl r u') (gw_W D cl wd) (rg as s.heap.size)) args s 0 0 (rg as s.heap.size)
abbrev gw_Ev {σ : Type} (D : va_G) (cl : List vw_C) (as : List Nat) (wd : σ → va_W) (below : List Frame) (args : Array Value) (s : State) (u' : σ) : State → Prop := MQ below (va_Qv (gw_Pv u') (gw_W D cl wd) (rg as s.heap.size)) args s 0 0 (rg as s.heap.size)
section GWR
variable {σ : Type} {p : Program} {l : Launch} {e : Env} {R : Room} {s : State} {m : MethodId} {args : Array Value} {below : List Frame} {meth : Method} {c : Code} {H : Heap} {locs : List Loc} {cells slots : Nat} {Q : State → Prop}
variable {cc : ByteArray} {pc : Nat} {ls : Array Slot} {rest st0 : List Value} {a : Array Value}
variable {D : va_G} {cl : List vw_C} {tys : List (ClassId × FieldType)} {as : List Nat} {X : (Nat → Prop) → State → Heap → Prop} {wd : σ → va_W} {u u' : σ}
theorem gw_nmi {x v : Int32} (h : v = x) (k : W p l e R s m args below meth c H locs cells slots Q (F0 m pc ls (.int v :: rest))) : W p l e R s m args below meth c H locs cells slots Q (F0 m pc ls (.int x :: rest)) := h ▸ k
theorem gw_nml {x v : Int64} (h : v = x) (k : W p l e R s m args below meth c H locs cells slots Q (F0 m pc ls (.long v :: rest))) : W p l e R s m args below meth c H locs cells slots Q (F0 m pc ls (.long x :: rest)) := h ▸ k
theorem gw_iast (hexec : p.tables.exec = Jvm.exec) (hb : c.code = cc) (hw : ∀ u, (wd u).map Prod.fst = as) (C : gw_C D cl tys as X s) (V : gw_V D cl as wd s u H locs) (q0 t0 : Nat) {b : Nat} {cA : ClassId} {n : Nat} {f : Nat → Int32} {i x : Int32} (ha : (wd u)[q0]? = some (b, .inl (cA, n, .inl f))) (ht : tys[t0]? = some (cA, .int)) (hin : vp_in i n)
    (hset : (wd u).set q0 (b, .inl (cA, n, .inl (upd f i.toNatClampNeg x))) = wd u') (hdg : decode cc pc = .ok (.iastore, 1))
    (kk : ∀ (H : Heap) (locs : List Loc), gw_V D cl as wd s u' H locs → W p l e R s m args below meth c H locs cells slots Q (F0 m (pc + 1) ls rest)) : W p l e R s m args below meth c H locs cells slots Q (F0 m pc ls (.int x :: .int i :: .ref b :: rest)) :=
  va_iast hexec hb C.1 V.1 (gw_D (hw u) C.2.1 _) V.2 q0 t0 ha ht hin hdg (fun H1 locs1 hP _ hS => kk H1 locs1 ⟨by rw [← hset]; exact hP, hS⟩)
theorem gw_put (hexec : p.tables.exec = Jvm.exec) (hb : c.code = cc) {own ref C : String} {T : u_T} {N ci index : Nat} {Ts : List Cond} (hts : ∀ w ∈ Ts, w.before args s = true) (hin : ∀ w ∈ u_ws C T N, w ∈ Ts) (ty0 : Nat → FieldType) (hty : ∀ k, k < N → parseFieldDescriptor (T k).2.2.1 = some (ty0 k)) (hnm : ∀ a, a < N → ∀ b, b < N → a ≠ b → (T a).2.1 ≠ (T b).2.1) (hown : s.vm.findClass own = some m.cls)
    (hw : ∀ u, (wd u).map Prod.fst = as) (C0 : gw_C D cl tys as X s) (V : gw_V D cl as wd s u H locs) (q0 : Nat) {b : Nat} {fs : List Value} (he : (wd u)[q0]? = some (b, .inr (ci, fs))) (hc : cl[ci]? = some (C, T, N)) (k : Nat) (hk : k < N) (hlink : (Cond.fieldLink own index ref (T k).2.1 (T k).2.2.1).before args s = true)
    (hsame : ∀ x, s.fieldFound? (T k).1 (T k).2.1 (T k).2.2.1 = some x → s.fieldFound? ref (T k).2.1 (T k).2.2.1 = some x) (hfin : (T k).2.2.2 = false) {v : Int32} (hd : parseFieldDescriptor (T k).2.2.1 = some .int) (hl : k < fs.length)
    (hset : (wd u).set q0 (b, .inr (ci, fs.set k (.int v))) = wd u') (hdg : decode cc pc = .ok (.putfield index, 3))
    (kk : ∀ (H : Heap) (locs : List Loc), gw_V D cl as wd s u' H locs → W p l e R s m args below meth c H locs cells slots Q (F0 m (pc + 3) ls rest)) : W p l e R s m args below meth c H locs cells slots Q (F0 m pc ls (.int v :: .ref b :: rest)) :=
  va_put hexec hb hts hin ty0 hty hnm hown C0.1 V.1 (gw_D (hw u) C0.2.1 _) V.2 q0 he hc k hk hlink hsame hfin hd rfl rfl hl hdg (fun H1 locs1 hP _ hS => kk H1 locs1 ⟨by rw [← hset]; exact hP, hS⟩)
theorem gw_ki {r : Int32} (V : gw_V D cl as wd s u H locs) (hr : va_Run p l e R s m args below meth c H locs cells slots 0 0 (F0 m pc ls st0) rest (va_Qi (gw_Pi r u') (gw_W D cl wd) (rg as H.size) a) (rg as H.size))
    (kk : ∀ (H : Heap) (locs : List Loc), gw_V D cl as wd s u' H locs → W p l e R s m args below meth c H locs cells slots Q (F0 m (pc + 3) ls (.int r :: rest))) : W p l e R s m args below meth c H locs cells slots Q (F0 m pc ls st0) := by
  refine va_calli hr V.2 (fun q _ h => rg_mono V.2.1 h) (fun q h => rg_mono V.2.1 h) (fun x w t H1 locs1 ht hvm hp hB hz hk hS => ?_)
  obtain ⟨rfl, rfl⟩ := hp
  exact kk H1 locs1 ⟨by rw [← ht]; exact hB, hS⟩
theorem gw_kl {r : Int64} (V : gw_V D cl as wd s u H locs) (hr : va_Run p l e R s m args below meth c H locs cells slots 0 0 (F0 m pc ls st0) rest (va_Ql (gw_Pl r u') (gw_W D cl wd) (rg as H.size) a) (rg as H.size))
    (kk : ∀ (H : Heap) (locs : List Loc), gw_V D cl as wd s u' H locs → W p l e R s m args below meth c H locs cells slots Q (F0 m (pc + 3) ls (.long r :: rest))) : W p l e R s m args below meth c H locs cells slots Q (F0 m pc ls st0) := by
  refine va_calll hr V.2 (fun q _ h => rg_mono V.2.1 h) (fun q h => rg_mono V.2.1 h) (fun x w t H1 locs1 ht hvm hp hB hz hk hS => ?_)
  obtain ⟨rfl, rfl⟩ := hp
  exact kk H1 locs1 ⟨by rw [← ht]; exact hB, hS⟩
theorem gw_kv (V : gw_V D cl as wd s u H locs) (hr : va_Run p l e R s m args below meth c H locs cells slots 0 0 (F0 m pc ls st0) rest (va_Qv (gw_Pv u') (gw_W D cl wd) (rg as H.size) a) (rg as H.size))
    (kk : ∀ (H : Heap) (locs : List Loc), gw_V D cl as wd s u' H locs → W p l e R s m args below meth c H locs cells slots Q (F0 m (pc + 3) ls rest)) : W p l e R s m args below meth c H locs cells slots Q (F0 m pc ls st0) := by
  refine va_callv hr V.2 (fun q _ h => rg_mono V.2.1 h) (fun q h => rg_mono V.2.1 h) (fun w t H1 locs1 ht hvm hp hB hz hk hS => ?_)
  obtain rfl := hp
  exact kk H1 locs1 ⟨by rw [← ht]; exact hB, hS⟩
theorem gw_reti {v r : Int32} {ty : FieldType} (hexec : p.tables.exec = Jvm.exec) (hb : c.code = cc) (hr : meth.sig.returnType = some ty) (hn : narrow ty (.int v) = .int v) (hlk : meth.locks = false) (V : gw_V D cl as wd s u H locs) (hv : v = r) (hu : u = u') (hdg : decode cc pc = .ok (.ireturn, 1)) :
    W p l e R s m args below meth c H locs cells slots (MQ below (va_Qi (gw_Pi r u') (gw_W D cl wd) (rg as s.heap.size)) args s cells slots (rg as s.heap.size)) (F0 m pc ls [.int v]) := by
  subst hv; subst hu
  exact W.zret hexec hb hr hn (fun t ht _ => ⟨⟨v, u, rfl, ⟨rfl, rfl⟩, by show va_P D cl (wd u) t.heap; rw [ht]; exact V.1⟩, V.2.F ht⟩) V.2.2.2 hdg hlk
theorem gw_retl {v r : Int64} (hexec : p.tables.exec = Jvm.exec) (hb : c.code = cc) (hr : meth.sig.returnType = some .long) (hlk : meth.locks = false) (V : gw_V D cl as wd s u H locs) (hv : v = r) (hu : u = u') (hdg : decode cc pc = .ok (.lreturn, 1)) :
    W p l e R s m args below meth c H locs cells slots (MQ below (va_Ql (gw_Pl r u') (gw_W D cl wd) (rg as s.heap.size)) args s cells slots (rg as s.heap.size)) (F0 m pc ls [.long v]) := by
  subst hv; subst hu
  exact W.lret hexec hb hr (fun t ht _ => ⟨⟨v, u, rfl, ⟨rfl, rfl⟩, by show va_P D cl (wd u) t.heap; rw [ht]; exact V.1⟩, V.2.F ht⟩) V.2.2.2 hdg hlk
theorem gw_retv (hexec : p.tables.exec = Jvm.exec) (hb : c.code = cc) (hr : meth.sig.returnType = none) (hlk : meth.locks = false) (V : gw_V D cl as wd s u H locs) (hu : u = u') (hdg : decode cc pc = .ok (.return_, 1)) :
    W p l e R s m args below meth c H locs cells slots (MQ below (va_Qv (gw_Pv u') (gw_W D cl wd) (rg as s.heap.size)) args s cells slots (rg as s.heap.size)) (F0 m pc ls []) := by
  subst hu
  exact W.vret hexec hb hr (fun t ht _ => ⟨⟨u, rfl, rfl, by show va_P D cl (wd u) t.heap; rw [ht]; exact V.1⟩, V.2.F ht⟩) V.2.2.2 hdg hlk
end GWR
def gw_B (p : Program) (s : State) (m : MethodId) (args : Array Value) (meth : Method) (c : Code) (cc : ByteArray) (nL : Nat) (ret : Option FieldType) (own : String) (Ts : List Cond) : Prop :=
  p.tables.exec = Jvm.exec ∧ c.code = cc ∧ c.maxLocals = nL ∧ s.vm.findClass own = some m.cls ∧ (∀ w ∈ Ts, w.before args s = true) ∧ meth.sig.returnType = ret ∧ meth.locks = false
section GWE
variable {σ : Type} {l : Launch} {y : MethodName} {ws ws' : List Cond} {rm : Room} {cc : ByteArray} {maxL : Nat} {ret : Option FieldType} {D : va_G} {cl : List vw_C} {tys : List (ClassId × FieldType)} {as : List Nat} {X : (Nat → Prop) → State → Heap → Prop} {wd : σ → va_W} {u u' : σ} {sz : Nat} {As : List Value}
theorem gw_Mof {Qc : Nat → Array Value → State → Outcome → State → Prop} {mc ms : Nat} (hy : plainName y.cls = true) (hw : ws = Cond.code y cc maxL ret :: ws')
    (body : ∀ (p : Program) (e : Env) (s : State) (m : MethodId) (below : List Frame) (meth : Method) (c : Code), gw_B p s m As.toArray meth c cc maxL ret y.cls ws' → gw_C D cl tys as X s → gw_V D cl as wd s u s.heap [] →
      W p l e rm s m As.toArray below meth c s.heap [] 0 0 (MQ below (Qc s.heap.size) As.toArray s mc ms (rg as s.heap.size)) (entryFrame m As.toArray maxL)) :
    Met l y ws rm (va_Pc As (gw_pre D cl tys as X wd sz u)) (Qc sz) mc ms (rg as sz) := by
  refine Met.ofW (cc := cc) (maxL := maxL) (ret := ret) hy hw ?_
  intro p e s m args below meth c s₁ B hml hv
  obtain ⟨rfl, rfl, hP, C⟩ := hv
  exact body p e s m below meth c ⟨B.exec, B.bytes, hml, findClass_of_methodNamed B.named, fun w h => atoms_spec (ws := ws) B.pre w (by rw [hw]; exact List.mem_cons_of_mem _ h), B.returns, B.notSynchronized⟩ C ⟨hP, va_S.rf⟩
end GWE
end
section
section GXM
variable {σ : Type} (D : va_G) (cl : List vw_C) (tys : List (ClassId × FieldType)) (as : List Nat) (X : (Nat → Prop) → State → Heap → Prop) (wd : σ → va_W)
def gx_Pi (k : Nat) (r : Int32) (u' : σ) : Int32 → σ → Prop := fun x w => k = 0 ∧ x = r ∧ w = u'
def gx_Pv (k : Nat) (u' : σ) : σ → Prop := fun w => k = 0 ∧ w = u'
def gx_Px (k : Nat) (u' : σ) : σ → Prop := fun w => ¬ k = 0 ∧ w = u'
def gx_W (k : Nat) (E : String) (w : σ) (t : State) : Prop := E = exN k ∧ va_P D cl (wd w) t.heap
def gx_Mi (l : Launch) (y : MethodName) (ws : List Cond) (rm : Room) (mc ms sz : Nat) (u : σ) (As : List Value) (k : Nat) (r : Int32) (u' : σ) : Prop :=
  vx_Met l y ws rm (va_Pc As (gw_pre D cl tys as X wd sz u)) (va_Qi (gx_Pi k r u') (gw_W D cl wd) (rg as sz)) (vx_X (gx_Px k u') (gx_W D cl wd k) (rg as sz)) mc ms (rg as sz)
def gx_Mv (l : Launch) (y : MethodName) (ws : List Cond) (rm : Room) (mc ms sz : Nat) (u : σ) (As : List Value) (k : Nat) (u' : σ) : Prop :=
  vx_Met l y ws rm (va_Pc As (gw_pre D cl tys as X wd sz u)) (va_Qv (gx_Pv k u') (gw_W D cl wd) (rg as sz)) (vx_X (gx_Px k u') (gx_W D cl wd k) (rg as sz)) mc ms (rg as sz)
end GXM
abbrev gx_Ei {σ : Type} (D : va_G) (cl : List vw_C) (as : List Nat) (wd : σ → va_W) (below : List Frame) (args : Array Value) (s : State) (mc ms k : Nat) (r : Int32) (u' : σ) : State → Prop := vx_MQ below (va_Qi (gx_Pi k r u') (gw_W D cl wd) (rg as s.heap.size)) (vx_X (gx_Px k u') (gx_W D cl wd k) (rg as s.heap.size)) args s mc ms (rg as s.heap.size)
abbrev gx_Ev {σ : Type} (D : va_G) (cl : List vw_C) (as : List Nat) (wd : σ → va_W) (below : List Frame) (args : Array Value) (s : State) (mc ms k : Nat) (u' : σ) : State → Prop := vx_MQ below (va_Qv (gx_Pv k u') (gw_W D cl wd) (rg as s.heap.size)) (vx_X (gx_Px k u') (gx_W D cl wd k) (rg as s.heap.size)) args s mc ms (rg as s.heap.size)
section GXR
variable {σ : Type} {p : Program} {l : Launch} {e : Env} {R : Room} {s : State} {m : MethodId} {args : Array Value} {below : List Frame} {meth : Method} {c : Code} {H : Heap} {locs : List Loc} {cells slots mc ms : Nat} {Q : State → Prop}
variable {cc : ByteArray} {pc : Nat} {ls : Array Slot} {rest st0 : List Value} {a : Array Value}
variable {D : va_G} {cl : List vw_C} {tys : List (ClassId × FieldType)} {as : List Nat} {X : (Nat → Prop) → State → Heap → Prop} {wd : σ → va_W} {u u' : σ} {k : Nat}
def gx_at (s : State) (k : Nat) (ce : Cell) (q : Addr) (H : Heap) : Prop := H[q]? = some ce ∧ ce.vm = .none ∧ s.vm.findClass (exN k) = some ce.cls
theorem gx_ki {r : Int32} (V : gw_V D cl as wd s u H locs) (hr : vx_Run p l e R s m args below meth c H locs cells slots mc ms (F0 m pc ls st0) rest (va_Qi (gx_Pi k r u') (gw_W D cl wd) (rg as H.size) a) (vx_X (gx_Px k u') (gx_W D cl wd k) (rg as H.size)) (rg as H.size))
    (kx : ¬ k = 0 → ∀ (H : Heap) (locs : List Loc) (ce : Cell) (q : Addr), gw_V D cl as wd s u' H locs → gx_at s k ce q H → vx_W p l e R s m args below meth c H locs (cells + mc) (slots + ms) Q (F0 m pc ls rest) q)
    (kk : k = 0 → ∀ (H : Heap) (locs : List Loc), gw_V D cl as wd s u' H locs → W p l e R s m args below meth c H locs (cells + mc) (slots + ms) Q (F0 m (pc + 3) ls (.int r :: rest))) : W p l e R s m args below meth c H locs cells slots Q (F0 m pc ls st0) := by
  refine vx_calli hr V.2 (fun q _ h => rg_mono V.2.1 h) (fun q h => rg_mono V.2.1 h) (fun q _ h => rg_mono V.2.1 h) (fun E ce q9 w t H1 locs1 ht hvm hp hB hz hk hS h1 h2 h3 => ?_) (fun x w t H1 locs1 ht hvm hp hB hz hk hS => ?_)
  · obtain ⟨hk0, rfl⟩ := hp
    obtain ⟨rfl, hB⟩ := hB
    exact kx hk0 H1 locs1 ce q9 ⟨by rw [← ht]; exact hB, hS⟩ ⟨h1, h2, h3⟩
  · obtain ⟨hk0, rfl, rfl⟩ := hp
    exact kk hk0 H1 locs1 ⟨by rw [← ht]; exact hB, hS⟩
theorem gx_kv (V : gw_V D cl as wd s u H locs) (hr : vx_Run p l e R s m args below meth c H locs cells slots mc ms (F0 m pc ls st0) rest (va_Qv (gx_Pv k u') (gw_W D cl wd) (rg as H.size) a) (vx_X (gx_Px k u') (gx_W D cl wd k) (rg as H.size)) (rg as H.size))
    (kx : ¬ k = 0 → ∀ (H : Heap) (locs : List Loc) (ce : Cell) (q : Addr), gw_V D cl as wd s u' H locs → gx_at s k ce q H → vx_W p l e R s m args below meth c H locs (cells + mc) (slots + ms) Q (F0 m pc ls rest) q)
    (kk : k = 0 → ∀ (H : Heap) (locs : List Loc), gw_V D cl as wd s u' H locs → W p l e R s m args below meth c H locs (cells + mc) (slots + ms) Q (F0 m (pc + 3) ls rest)) : W p l e R s m args below meth c H locs cells slots Q (F0 m pc ls st0) := by
  refine vx_callv hr V.2 (fun q _ h => rg_mono V.2.1 h) (fun q h => rg_mono V.2.1 h) (fun q _ h => rg_mono V.2.1 h) (fun E ce q9 w t H1 locs1 ht hvm hp hB hz hk hS h1 h2 h3 => ?_) (fun w t H1 locs1 ht hvm hp hB hz hk hS => ?_)
  · obtain ⟨hk0, rfl⟩ := hp
    obtain ⟨rfl, hB⟩ := hB
    exact kx hk0 H1 locs1 ce q9 ⟨by rw [← ht]; exact hB, hS⟩ ⟨h1, h2, h3⟩
  · obtain ⟨hk0, rfl⟩ := hp
    exact kk hk0 H1 locs1 ⟨by rw [← ht]; exact hB, hS⟩
theorem gx_out {Qc : Array Value → State → Outcome → State → Prop} {ce : Cell} {q : Addr} {k' : Nat} (htab : ∀ x ∈ c.exceptionTable.toList, False) (hlk : meth.locks = false) (V : gw_V D cl as wd s u H locs) (hat : gx_at s k ce q H) (h0 : ¬ k = 0) (hk : k = k') (hu : u = u') (hc : cells ≤ mc) (hs : slots ≤ ms) :
    vx_W p l e R s m args below meth c H locs cells slots (vx_MQ below Qc (vx_X (gx_Px k' u') (gx_W D cl wd k') (rg as s.heap.size)) args s mc ms (rg as s.heap.size)) (F0 m pc ls rest) q := by
  subst hk; subst hu
  exact vx_out (fun x hx => (htab x hx).elim) hlk hat.1 hat.2.1 hat.2.2 (fun t ht _ => ⟨u, ⟨h0, rfl⟩, ⟨rfl, by rw [ht]; exact V.1⟩, V.2.F ht⟩) V.2.2.2 hc hs
theorem gx_reti {XC : String → State → State → Prop} {v r : Int32} {ty : FieldType} (hexec : p.tables.exec = Jvm.exec) (hb : c.code = cc) (hr : meth.sig.returnType = some ty) (hn : narrow ty (.int v) = .int v) (hlk : meth.locks = false) (V : gw_V D cl as wd s u H locs) (hk : k = 0) (hv : v = r) (hu : u = u') (hc : cells ≤ mc) (hs : slots ≤ ms) (hdg : decode cc pc = .ok (.ireturn, 1)) :
    W p l e R s m args below meth c H locs cells slots (vx_MQ below (va_Qi (gx_Pi k r u') (gw_W D cl wd) (rg as s.heap.size)) XC args s mc ms (rg as s.heap.size)) (F0 m pc ls [.int v]) := by
  subst hv; subst hu
  refine W.widen hc hs (vx_ret ?_)
  exact W.zret hexec hb hr hn (fun t ht _ => ⟨⟨v, u, rfl, ⟨hk, rfl, rfl⟩, by show va_P D cl (wd u) t.heap; rw [ht]; exact V.1⟩, V.2.F ht⟩) V.2.2.2 hdg hlk
theorem gx_retv {XC : String → State → State → Prop} (hexec : p.tables.exec = Jvm.exec) (hb : c.code = cc) (hr : meth.sig.returnType = none) (hlk : meth.locks = false) (V : gw_V D cl as wd s u H locs) (hk : k = 0) (hu : u = u') (hc : cells ≤ mc) (hs : slots ≤ ms) (hdg : decode cc pc = .ok (.return_, 1)) :
    W p l e R s m args below meth c H locs cells slots (vx_MQ below (va_Qv (gx_Pv k u') (gw_W D cl wd) (rg as s.heap.size)) XC args s mc ms (rg as s.heap.size)) (F0 m pc ls []) := by
  subst hu
  refine W.widen hc hs (vx_ret ?_)
  exact W.vret hexec hb hr (fun t ht _ => ⟨⟨u, rfl, ⟨hk, rfl⟩, by show va_P D cl (wd u) t.heap; rw [ht]; exact V.1⟩, V.2.F ht⟩) V.2.2.2 hdg hlk
theorem gx_thr {Qc : Array Value → State → Outcome → State → Prop} {k' nL : Nat} {own E text : String} {names : List String} {ik is ic sa : Nat} {Ts Bs : List Cond} (hexec : p.tables.exec = Jvm.exec) (hb : c.code = cc) (hl9 : l.stackTraces = false) (hown : s.vm.findClass own = some m.cls) (hts : ∀ w ∈ Ts, w.before args s = true)
    (hfit : Bundle.fit E = true) (hfn : ∀ n ∈ names, Bundle.fit n = true) (h1 : Cond.classLink own ik E ∈ Ts) (h2 : Cond.initialized E ∈ Ts) (hA : ∀ w ∈ (vx_atS own ic E names).filter goodWord, w ∈ Ts) (hB : ∀ w ∈ (vx_atS own ic E names).filter (fun w => !goodWord w), w ∈ Bs) (hBs : ∀ w ∈ Bs, w.before args s = true)
    (hG : ∀ w ∈ Cond.classLink own ik E :: Cond.initialized E :: vx_atS own ic E names, vx_ot w = true) (hstr : vk_R own is text sa s) (hU : vx_Zq Bundle.tN "UNASSIGNED_STACK" Bundle.steD (rg as s.heap.size) s s.heap) (hN : vx_Zq Bundle.tN "SUPPRESSED_SENTINEL" Bundle.listD (rg as s.heap.size) s s.heap)
    (V : gw_V D cl as wd s u H locs) (htab : ∀ x ∈ c.exceptionTable.toList, False) (hsz : ls.size = nL) (hml : c.maxLocals = nL) (hlk : meth.locks = false) (hE : E = exN k') (h0 : ¬ k' = 0) (hu : u = u')
    (d0 : decode cc pc = .ok (.new ik, 3)) (d3 : decode cc (pc + 3) = .ok (.dup, 1)) (d4 : decode cc (pc + 4) = .ok (.ldc is, 2)) (d6 : decode cc (pc + 6) = .ok (.invokespecial ic, 3)) (d9 : decode cc (pc + 9) = .ok (.athrow, 1))
    (hRf : names.length + 3 < R.frames) (hRl : (rest.map fun v => v.category).sum + (13 * (names.length + 1) + 43) ≤ R.locals) (hRc : cells + 1 ≤ R.cells) (hRs : slots + 6 ≤ R.slots) (hc : cells + 1 ≤ mc) (hs : slots + 6 ≤ ms) :
    W p l e R s m args below meth c H locs cells slots (vx_MQ below Qc (vx_X (gx_Px k' u') (gx_W D cl wd k') (rg as s.heap.size)) args s mc ms (rg as s.heap.size)) (F0 m pc ls rest) := by
  subst hu
  refine vx_throwS hexec hb hl9 hown hfit hfn (hts _ h1) (hts _ h2) hstr (vx_hat (fun w hw => hts w (hA w hw)) hB hBs) hG hU hN V.2 (hsz.trans hml.symm) d0 d3 d4 d6 d9 (fun x hx => (htab x hx).elim) hRf hRl hRc hRs hlk (fun t _ hz hk => ?_) V.2.2.2 hc hs
  refine ⟨u, ⟨h0, rfl⟩, ⟨hE, ?_⟩, ?_⟩
  · exact V.1.kept (fun j q hq => hk q.1 (V.1 j q hq).lt)
  · exact ⟨Nat.le_trans V.2.1 hz, fun q h1 h2 => by rw [hk q (Nat.lt_of_lt_of_le h1 V.2.1)]; exact V.2.2.1 q h1 h2⟩
end GXR
section GXE
variable {σ : Type} {l : Launch} {y : MethodName} {ws ws' : List Cond} {rm : Room} {cc : ByteArray} {maxL : Nat} {ret : Option FieldType} {D : va_G} {cl : List vw_C} {tys : List (ClassId × FieldType)} {as : List Nat} {X : (Nat → Prop) → State → Heap → Prop} {wd : σ → va_W} {u : σ} {sz : Nat} {As : List Value}
theorem gx_Mof {Qc : Nat → Array Value → State → Outcome → State → Prop} {XC : Nat → String → State → State → Prop} {mc ms : Nat} (hy : plainName y.cls = true) (hw : ws = Cond.code y cc maxL ret :: ws')
    (body : ∀ (p : Program) (e : Env) (s : State) (m : MethodId) (below : List Frame) (meth : Method) (c : Code), gw_B p s m As.toArray meth c cc maxL ret y.cls ws' → (∀ x ∈ c.exceptionTable.toList, False) → gw_C D cl tys as X s → gw_V D cl as wd s u s.heap [] →
      W p l e rm s m As.toArray below meth c s.heap [] 0 0 (vx_MQ below (Qc s.heap.size) (XC s.heap.size) As.toArray s mc ms (rg as s.heap.size)) (entryFrame m As.toArray maxL)) :
    vx_Met l y ws rm (va_Pc As (gw_pre D cl tys as X wd sz u)) (Qc sz) (XC sz) mc ms (rg as sz) := by
  refine vx_ofW (cc := cc) (maxL := maxL) (ret := ret) hy hw ?_
  intro p e s m args below meth c s₁ B hml htab hv
  obtain ⟨rfl, rfl, hP, C⟩ := hv
  exact body p e s m below meth c ⟨B.exec, B.bytes, hml, findClass_of_methodNamed B.named, fun w h => atoms_spec (ws := ws) B.pre w (by rw [hw]; exact List.mem_cons_of_mem _ h), B.returns, B.notSynchronized⟩ htab C ⟨hP, va_S.rf⟩
end GXE
end
section
theorem gs_left {D : va_G} {cl : List vw_C} {w r : va_W} {H : Heap} (h : va_P D cl (w ++ r) H) : va_P D cl w H := fun k q hk => h k q (by rw [List.getElem?_append_left (List.getElem?_eq_some_iff.mp hk).1]; exact hk)
theorem gs_right {D : va_G} {cl : List vw_C} {w r : va_W} {H : Heap} (h : va_P D cl (w ++ r) H) : va_P D cl r H := fun k q hk => h (w.length + k) q (by rw [List.getElem?_append_right (Nat.le_add_right _ _), Nat.add_sub_cancel_left]; exact hk)
theorem gs_app {D : va_G} {cl : List vw_C} {w r : va_W} {H : Heap} (h1 : va_P D cl w H) (h2 : va_P D cl r H) : va_P D cl (w ++ r) H := fun k q hk => by
  rcases Nat.lt_or_ge k w.length with h | h
  · rw [List.getElem?_append_left h] at hk; exact h1 k q hk
  · rw [List.getElem?_append_right h] at hk; exact h2 _ q hk
theorem gs_kept {D : va_G} {cl : List vw_C} {r : va_W} {as ar : List Nat} {H H1 : Heap} (hr : r.map Prod.fst = ar) (hd : ∀ q ∈ ar, q ∉ as) (h : va_P D cl r H) (hk : ∀ q : Nat, q < H.size → ¬ rg as H.size q → H1[q]? = H[q]?) : va_P D cl r H1 :=
  h.kept (fun k q hq => hk q.1 (h k q hq).lt (fun z => z.elim (hd q.1 (by rw [← hr]; exact List.mem_map.mpr ⟨q, List.mem_of_getElem? hq, rfl⟩)) (fun z => absurd (h k q hq).lt (Nat.not_lt.mpr z))))
section GS
variable {σ τ : Type} {p : Program} {l : Launch} {e : Env} {R : Room} {s : State} {m : MethodId} {args : Array Value} {below : List Frame} {meth : Method} {c : Code} {H : Heap} {locs : List Loc} {cells slots mc ms : Nat} {Q : State → Prop}
variable {pc : Nat} {ls : Array Slot} {rest st0 : List Value} {a : Array Value}
variable {D : va_G} {cl : List vw_C} {tys tys2 : List (ClassId × FieldType)} {as ar as2 : List Nat} {X : (Nat → Prop) → State → Heap → Prop} {wd : σ → va_W} {u u' : σ} {r : va_W} {w1 w2 : va_W}
theorem gs_pre (hX : gw_ok X) (hK : va_K D cl tys s) (hn : as.Nodup) (hx : X (rg as2 s.heap.size) s s.heap) (hP : va_P D cl (wd u) H) (hS : va_S (rg as2 s.heap.size) s.heap H locs) (hle : ∀ q ∈ as, q ∈ as2) (U : State) (hU : U.heap = H) (hW : s.WarmedH U.vm) : gw_pre D cl tys as X wd H.size u U := by
  subst hU
  refine ⟨rfl, hP, va_K.moved hW.alike hK, hn, ?_⟩
  have h1 := hX.2.2.1 _ s s.heap U.heap hS.2.1 hx
  have h2 := hX.2.2.2 _ (rg as U.heap.size) s U.heap (fun q h => h.elim (fun z => Or.inl (hle q z)) (fun z => Or.inr (Nat.le_trans hS.1 z))) h1
  exact hX.2.1 _ s U _ hW h2
theorem gs_preS (hX : gw_ok X) (hK : va_K D cl tys s) (hn : as.Nodup) (hx : X (rg as2 s.heap.size) s s.heap) (hP : va_P D cl (wd u) H) (hS : va_S (rg as2 s.heap.size) s.heap H locs) (hle : ∀ q ∈ as, q ∈ as2) (As : List Value) : PreS s H (va_Pc As (gw_pre D cl tys as X wd H.size u)) As :=
  ⟨gw_blind hX, fun U hU hW => ⟨rfl, gs_pre hX hK hn hx hP hS hle U hU hW⟩⟩
theorem gs_preV (hX : gw_ok X) (hK : va_K D cl tys s) (hn : as.Nodup) (hx : X (rg as2 s.heap.size) s s.heap) (hP : va_P D cl (wd u) H) (hS : va_S (rg as2 s.heap.size) s.heap H locs) (hle : ∀ q ∈ as, q ∈ as2) {b q0 ci : Nat} {q : vw_C} {fs : List Value} (As : List Value) (hc : cl[ci]? = some q) (he : (wd u)[q0]? = some (b, .inr (ci, fs))) : PreV s H q.1 b (va_Pc (Value.ref b :: As) (gw_pre D cl tys as X wd H.size u)) As :=
  ⟨gw_blind hX, va_recv hK hP hc he, fun U hU hW => ⟨rfl, gs_pre hX hK hn hx hP hS hle U hU hW⟩⟩
theorem gs_ki {v : Int32} (hS : va_S (rg as2 s.heap.size) s.heap H locs) (hle : ∀ q ∈ as, q ∈ as2) (hr : va_Run p l e R s m args below meth c H locs cells slots mc ms (F0 m pc ls st0) rest (va_Qi (gw_Pi v u') (gw_W D cl wd) (rg as H.size) a) (rg as H.size))
    (hj : ∀ H1 : Heap, va_P D cl (wd u') H1 → (∀ q : Nat, q < H.size → ¬ rg as H.size q → H1[q]? = H[q]?) → va_P D cl w2 H1)
    (kk : ∀ (H : Heap) (locs : List Loc), va_P D cl w2 H → va_S (rg as2 s.heap.size) s.heap H locs → W p l e R s m args below meth c H locs (cells + mc) (slots + ms) Q (F0 m (pc + 3) ls (.int v :: rest))) : W p l e R s m args below meth c H locs cells slots Q (F0 m pc ls st0) := by
  have hin : ∀ q, rg as H.size q → rg as2 s.heap.size q := fun q h => h.elim (fun z => Or.inl (hle q z)) (fun z => Or.inr (Nat.le_trans hS.1 z))
  refine va_calli hr hS (fun q _ h => hin q h) hin (fun x w t H1 locs1 ht hvm hp hB hz hk hS => ?_)
  obtain ⟨rfl, rfl⟩ := hp
  exact kk H1 locs1 (hj H1 (by rw [← ht]; exact hB) hk) hS
theorem gs_kv (hS : va_S (rg as2 s.heap.size) s.heap H locs) (hle : ∀ q ∈ as, q ∈ as2) (hr : va_Run p l e R s m args below meth c H locs cells slots 0 0 (F0 m pc ls st0) rest (va_Qv (gw_Pv u') (gw_W D cl wd) (rg as H.size) a) (rg as H.size))
    (hj : ∀ H1 : Heap, va_P D cl (wd u') H1 → (∀ q : Nat, q < H.size → ¬ rg as H.size q → H1[q]? = H[q]?) → va_P D cl w2 H1)
    (kk : ∀ (H : Heap) (locs : List Loc), va_P D cl w2 H → va_S (rg as2 s.heap.size) s.heap H locs → W p l e R s m args below meth c H locs cells slots Q (F0 m (pc + 3) ls rest)) : W p l e R s m args below meth c H locs cells slots Q (F0 m pc ls st0) := by
  have hin : ∀ q, rg as H.size q → rg as2 s.heap.size q := fun q h => h.elim (fun z => Or.inl (hle q z)) (fun z => Or.inr (Nat.le_trans hS.1 z))
  refine va_callv hr hS (fun q _ h => hin q h) hin (fun w t H1 locs1 ht hvm hp hB hz hk hS => ?_)
  obtain rfl := hp
  exact kk H1 locs1 (hj H1 (by rw [← ht]; exact hB) hk) hS
theorem gs_xki {k : Nat} {v : Int32} (hS : va_S (rg as2 s.heap.size) s.heap H locs) (hle : ∀ q ∈ as, q ∈ as2) (hr : vx_Run p l e R s m args below meth c H locs cells slots mc ms (F0 m pc ls st0) rest (va_Qi (gx_Pi k v u') (gw_W D cl wd) (rg as H.size) a) (vx_X (gx_Px k u') (gx_W D cl wd k) (rg as H.size)) (rg as H.size))
    (hj : ∀ H1 : Heap, va_P D cl (wd u') H1 → (∀ q : Nat, q < H.size → ¬ rg as H.size q → H1[q]? = H[q]?) → va_P D cl w2 H1)
    (kx : ¬ k = 0 → ∀ (H : Heap) (locs : List Loc) (ce : Cell) (q : Addr), va_P D cl w2 H → va_S (rg as2 s.heap.size) s.heap H locs → gx_at s k ce q H → vx_W p l e R s m args below meth c H locs (cells + mc) (slots + ms) Q (F0 m pc ls rest) q)
    (kk : k = 0 → ∀ (H : Heap) (locs : List Loc), va_P D cl w2 H → va_S (rg as2 s.heap.size) s.heap H locs → W p l e R s m args below meth c H locs (cells + mc) (slots + ms) Q (F0 m (pc + 3) ls (.int v :: rest))) : W p l e R s m args below meth c H locs cells slots Q (F0 m pc ls st0) := by
  have hin : ∀ q, rg as H.size q → rg as2 s.heap.size q := fun q h => h.elim (fun z => Or.inl (hle q z)) (fun z => Or.inr (Nat.le_trans hS.1 z))
  refine vx_calli hr hS (fun q _ h => hin q h) hin (fun q _ h => hin q h) (fun E ce q9 w t H1 locs1 ht hvm hp hB hz hk hS h1 h2 h3 => ?_) (fun x w t H1 locs1 ht hvm hp hB hz hk hS => ?_)
  · obtain ⟨hk0, rfl⟩ := hp
    obtain ⟨rfl, hB⟩ := hB
    exact kx hk0 H1 locs1 ce q9 (hj H1 (by rw [← ht]; exact hB) hk) hS ⟨h1, h2, h3⟩
  · obtain ⟨hk0, rfl, rfl⟩ := hp
    exact kk hk0 H1 locs1 (hj H1 (by rw [← ht]; exact hB) hk) hS
theorem gs_xkv {k : Nat} (hS : va_S (rg as2 s.heap.size) s.heap H locs) (hle : ∀ q ∈ as, q ∈ as2) (hr : vx_Run p l e R s m args below meth c H locs cells slots mc ms (F0 m pc ls st0) rest (va_Qv (gx_Pv k u') (gw_W D cl wd) (rg as H.size) a) (vx_X (gx_Px k u') (gx_W D cl wd k) (rg as H.size)) (rg as H.size))
    (hj : ∀ H1 : Heap, va_P D cl (wd u') H1 → (∀ q : Nat, q < H.size → ¬ rg as H.size q → H1[q]? = H[q]?) → va_P D cl w2 H1)
    (kx : ¬ k = 0 → ∀ (H : Heap) (locs : List Loc) (ce : Cell) (q : Addr), va_P D cl w2 H → va_S (rg as2 s.heap.size) s.heap H locs → gx_at s k ce q H → vx_W p l e R s m args below meth c H locs (cells + mc) (slots + ms) Q (F0 m pc ls rest) q)
    (kk : k = 0 → ∀ (H : Heap) (locs : List Loc), va_P D cl w2 H → va_S (rg as2 s.heap.size) s.heap H locs → W p l e R s m args below meth c H locs (cells + mc) (slots + ms) Q (F0 m (pc + 3) ls rest)) : W p l e R s m args below meth c H locs cells slots Q (F0 m pc ls st0) := by
  have hin : ∀ q, rg as H.size q → rg as2 s.heap.size q := fun q h => h.elim (fun z => Or.inl (hle q z)) (fun z => Or.inr (Nat.le_trans hS.1 z))
  refine vx_callv hr hS (fun q _ h => hin q h) hin (fun q _ h => hin q h) (fun E ce q9 w t H1 locs1 ht hvm hp hB hz hk hS h1 h2 h3 => ?_) (fun w t H1 locs1 ht hvm hp hB hz hk hS => ?_)
  · obtain ⟨hk0, rfl⟩ := hp
    obtain ⟨rfl, hB⟩ := hB
    exact kx hk0 H1 locs1 ce q9 (hj H1 (by rw [← ht]; exact hB) hk) hS ⟨h1, h2, h3⟩
  · obtain ⟨hk0, rfl⟩ := hp
    exact kk hk0 H1 locs1 (hj H1 (by rw [← ht]; exact hB) hk) hS
end GS
def gl_M {σ : Type} (D : va_G) (cl : List vw_C) (tys : List (ClassId × FieldType)) (as : List Nat) (X : (Nat → Prop) → State → Heap → Prop) (wd : σ → va_W) (l : Launch) (y : MethodName) (ws : List Cond) (rm : Room) (mc ms sz : Nat) (u : σ) (As : List Value) (r : Int32) (u' : σ) : Prop :=
  Met l y ws rm (va_Pc As (gw_pre D cl tys as X wd sz u)) (va_Qi (gw_Pi r u') (gw_W D cl wd) (rg as sz)) mc ms (rg as sz)
def lwc (cs : List Nat) (k : Nat) : Int32 := if k = 0 then 0 else Int32.ofNat (cs.idxOf k + 1)
section GL
variable {σ : Type} {p : Program} {l : Launch} {e : Env} {R : Room} {s : State} {m : MethodId} {args : Array Value} {below : List Frame} {meth : Method} {c : Code} {H : Heap} {locs : List Loc} {cells slots mc ms : Nat} {Q : State → Prop}
variable {cc : ByteArray} {pc : Nat} {ls : Array Slot} {rest : List Value}
variable {D : va_G} {cl : List vw_C} {tys : List (ClassId × FieldType)} {as : List Nat} {X : (Nat → Prop) → State → Heap → Prop} {wd : σ → va_W} {u u' : σ}
theorem gl_reti {v r : Int32} {ty : FieldType} (hexec : p.tables.exec = Jvm.exec) (hb : c.code = cc) (hr : meth.sig.returnType = some ty) (hn : narrow ty (.int v) = .int v) (hlk : meth.locks = false) (hP : va_P D cl (wd u) H) (hS : va_S (rg as s.heap.size) s.heap H locs) (hv : v = r) (hu : u = u') (hc : cells ≤ mc) (hs : slots ≤ ms) (hdg : decode cc pc = .ok (.ireturn, 1)) :
    W p l e R s m args below meth c H locs cells slots (MQ below (va_Qi (gw_Pi r u') (gw_W D cl wd) (rg as s.heap.size)) args s mc ms (rg as s.heap.size)) (F0 m pc ls [.int v]) := by
  subst hv; subst hu
  refine W.widen hc hs ?_
  exact W.zret hexec hb hr hn (fun t ht _ => ⟨⟨v, u, rfl, ⟨rfl, rfl⟩, by show va_P D cl (wd u) t.heap; rw [ht]; exact hP⟩, hS.F ht⟩) hS.2.2 hdg hlk
theorem gl_last (hexec : p.tables.exec = Jvm.exec) (hb : c.code = cc) (hw : ∀ u, (wd u).map Prod.fst = as) (C : gw_C D cl tys as X s) (hP : va_P D cl (wd u) H) (hS : va_S (rg as s.heap.size) s.heap H locs) (q0 t0 : Nat) {b : Nat} {cA : ClassId} {n : Nat} {f : Nat → Int64} {i : Int32} {x : Int64} (ha : (wd u)[q0]? = some (b, .inl (cA, n, .inr (.inl f)))) (ht : tys[t0]? = some (cA, .long)) (hin : vp_in i n)
    (hset : (wd u).set q0 (b, .inl (cA, n, .inr (.inl (vp_updL f i.toNatClampNeg x)))) = wd u') (hdg : decode cc pc = .ok (.lastore, 1))
    (kk : ∀ (H : Heap) (locs : List Loc), va_P D cl (wd u') H → va_S (rg as s.heap.size) s.heap H locs → W p l e R s m args below meth c H locs cells slots Q (F0 m (pc + 1) ls rest)) : W p l e R s m args below meth c H locs cells slots Q (F0 m pc ls (.long x :: .int i :: .ref b :: rest)) :=
  va_last hexec hb C.1 hP (gw_D (hw u) C.2.1 _) hS q0 t0 ha ht hin hdg (fun H1 locs1 hP _ hS => kk H1 locs1 (by rw [← hset]; exact hP) hS)
end GL
theorem gl_Mof {σ : Type} {l : Launch} {y : MethodName} {ws ws' : List Cond} {rm : Room} {cc : ByteArray} {maxL : Nat} {ret : Option FieldType} {hh : List (Nat × Nat × Nat × Nat)} {D : va_G} {cl : List vw_C} {tys : List (ClassId × FieldType)} {as : List Nat} {X : (Nat → Prop) → State → Heap → Prop} {wd : σ → va_W} {u u' : σ} {sz mc ms : Nat} {As : List Value} {r : Int32} (hy : plainName y.cls = true) (hw : ws = Cond.codeWith y cc maxL ret hh :: ws')
    (body : ∀ (p : Program) (e : Env) (s : State) (m : MethodId) (below : List Frame) (meth : Method) (c : Code), gw_B p s m As.toArray meth c cc maxL ret y.cls ws' → c.exceptionTable.toList = tableOf hh → gw_C D cl tys as X s → va_P D cl (wd u) s.heap →
      W p l e rm s m As.toArray below meth c s.heap [] 0 0 (MQ below (va_Qi (gw_Pi r u') (gw_W D cl wd) (rg as s.heap.size)) As.toArray s mc ms (rg as s.heap.size)) (entryFrame m As.toArray maxL)) :
    gl_M D cl tys as X wd l y ws rm mc ms sz u As r u' := by
  refine va_MetW (cc := cc) (maxL := maxL) (ret := ret) (hh := hh) hy hw ?_
  intro p e s m args below meth c s₁ B hml hv
  obtain ⟨rfl, rfl, hP, C⟩ := hv
  have hts := atoms_spec (ws := ws) B.pre
  exact body p e s m below meth c ⟨B.exec, B.bytes, hml, findClass_of_methodNamed B.named, fun w h => hts w (by rw [hw]; exact List.mem_cons_of_mem _ h), B.returns, B.notSynchronized⟩ (vx_table (x := y) B (hts _ (by rw [hw]; exact List.mem_cons_self))) C hP
end
section
def gk (k : Nat) : Nat := if k = 0 then 0 else 1
theorem gk_0 {k : Nat} (h : k = 0) : gk k = 0 := by unfold gk; rw [if_pos h]
theorem gk_1 {k : Nat} (h : ¬ k = 0) : gk k = 1 := by unfold gk; rw [if_neg h]
theorem gk_le {v k : Nat} (h : ¬ v = 0 → v = k) : gk v ≤ gk k := by
  by_cases q : v = 0
  · rw [gk_0 q]; exact Nat.zero_le _
  · rw [h q]; exact Nat.le_refl _
theorem gkr {v k : Nat} (h : gk v ≤ gk k) : 0 + gk v ≤ gk k ∧ 0 + 6 * gk v ≤ 6 * gk k := ⟨by omega, by omega⟩
theorem gk1 {k : Nat} (h : ¬ k = 0) : 0 + 1 ≤ gk k ∧ 0 + 6 ≤ 6 * gk k := by rw [gk_1 h]; exact ⟨Nat.le_refl _, Nat.le_refl _⟩
theorem gkb (k : Nat) : 0 + gk k ≤ 1 ∧ 0 + 6 * gk k ≤ 6 := by
  by_cases q : k = 0
  · rw [gk_0 q]; exact ⟨by decide, by decide⟩
  · rw [gk_1 q]; exact ⟨by decide, by decide⟩
section GY
variable {σ : Type} {p : Program} {l : Launch} {e : Env} {R : Room} {s : State} {m : MethodId} {args : Array Value} {below : List Frame} {meth : Method} {c : Code} {H : Heap} {locs : List Loc} {cells slots : Nat} {Q : State → Prop}
variable {pc : Nat} {ls : Array Slot} {rest st0 : List Value} {a : Array Value}
variable {D : va_G} {cl : List vw_C} {as as2 : List Nat} {wd : σ → va_W} {u u' : σ} {k : Nat} {w2 : va_W}
theorem gy_ki {r : Int32} (V : gw_V D cl as wd s u H locs) (hr : vx_Run p l e R s m args below meth c H locs cells slots (gk k) (6 * gk k) (F0 m pc ls st0) rest (va_Qi (gx_Pi k r u') (gw_W D cl wd) (rg as H.size) a) (vx_X (gx_Px k u') (gx_W D cl wd k) (rg as H.size)) (rg as H.size))
    (kx : ¬ k = 0 → ∀ (H : Heap) (locs : List Loc) (ce : Cell) (q : Addr), gw_V D cl as wd s u' H locs → gx_at s k ce q H → vx_W p l e R s m args below meth c H locs (cells + 1) (slots + 6) Q (F0 m pc ls rest) q)
    (kk : k = 0 → ∀ (H : Heap) (locs : List Loc), gw_V D cl as wd s u' H locs → W p l e R s m args below meth c H locs cells slots Q (F0 m (pc + 3) ls (.int r :: rest))) : W p l e R s m args below meth c H locs cells slots Q (F0 m pc ls st0) :=
  gx_ki V hr (fun h H locs ce q V hat => by rw [gk_1 h]; exact kx h H locs ce q V hat) (fun h H locs V => by rw [gk_0 h]; exact kk h H locs V)
theorem gy_kv (V : gw_V D cl as wd s u H locs) (hr : vx_Run p l e R s m args below meth c H locs cells slots (gk k) (6 * gk k) (F0 m pc ls st0) rest (va_Qv (gx_Pv k u') (gw_W D cl wd) (rg as H.size) a) (vx_X (gx_Px k u') (gx_W D cl wd k) (rg as H.size)) (rg as H.size))
    (kx : ¬ k = 0 → ∀ (H : Heap) (locs : List Loc) (ce : Cell) (q : Addr), gw_V D cl as wd s u' H locs → gx_at s k ce q H → vx_W p l e R s m args below meth c H locs (cells + 1) (slots + 6) Q (F0 m pc ls rest) q)
    (kk : k = 0 → ∀ (H : Heap) (locs : List Loc), gw_V D cl as wd s u' H locs → W p l e R s m args below meth c H locs cells slots Q (F0 m (pc + 3) ls rest)) : W p l e R s m args below meth c H locs cells slots Q (F0 m pc ls st0) :=
  gx_kv V hr (fun h H locs ce q V hat => by rw [gk_1 h]; exact kx h H locs ce q V hat) (fun h H locs V => by rw [gk_0 h]; exact kk h H locs V)
theorem gz_xki {v : Int32} (hS : va_S (rg as2 s.heap.size) s.heap H locs) (hle : ∀ q ∈ as, q ∈ as2) (hr : vx_Run p l e R s m args below meth c H locs cells slots (gk k) (6 * gk k) (F0 m pc ls st0) rest (va_Qi (gx_Pi k v u') (gw_W D cl wd) (rg as H.size) a) (vx_X (gx_Px k u') (gx_W D cl wd k) (rg as H.size)) (rg as H.size))
    (hj : ∀ H1 : Heap, va_P D cl (wd u') H1 → (∀ q : Nat, q < H.size → ¬ rg as H.size q → H1[q]? = H[q]?) → va_P D cl w2 H1)
    (kx : ¬ k = 0 → ∀ (H : Heap) (locs : List Loc) (ce : Cell) (q : Addr), va_P D cl w2 H → va_S (rg as2 s.heap.size) s.heap H locs → gx_at s k ce q H → vx_W p l e R s m args below meth c H locs (cells + 1) (slots + 6) Q (F0 m pc ls rest) q)
    (kk : k = 0 → ∀ (H : Heap) (locs : List Loc), va_P D cl w2 H → va_S (rg as2 s.heap.size) s.heap H locs → W p l e R s m args below meth c H locs cells slots Q (F0 m (pc + 3) ls (.int v :: rest))) : W p l e R s m args below meth c H locs cells slots Q (F0 m pc ls st0) :=
  gs_xki hS hle hr hj (fun h H locs ce q a1 a2 hat => by rw [gk_1 h]; exact kx h H locs ce q a1 a2 hat) (fun h H locs a1 a2 => by rw [gk_0 h]; exact kk h H locs a1 a2)
theorem gz_xkv (hS : va_S (rg as2 s.heap.size) s.heap H locs) (hle : ∀ q ∈ as, q ∈ as2) (hr : vx_Run p l e R s m args below meth c H locs cells slots (gk k) (6 * gk k) (F0 m pc ls st0) rest (va_Qv (gx_Pv k u') (gw_W D cl wd) (rg as H.size) a) (vx_X (gx_Px k u') (gx_W D cl wd k) (rg as H.size)) (rg as H.size))
    (hj : ∀ H1 : Heap, va_P D cl (wd u') H1 → (∀ q : Nat, q < H.size → ¬ rg as H.size q → H1[q]? = H[q]?) → va_P D cl w2 H1)
    (kx : ¬ k = 0 → ∀ (H : Heap) (locs : List Loc) (ce : Cell) (q : Addr), va_P D cl w2 H → va_S (rg as2 s.heap.size) s.heap H locs → gx_at s k ce q H → vx_W p l e R s m args below meth c H locs (cells + 1) (slots + 6) Q (F0 m pc ls rest) q)
    (kk : k = 0 → ∀ (H : Heap) (locs : List Loc), va_P D cl w2 H → va_S (rg as2 s.heap.size) s.heap H locs → W p l e R s m args below meth c H locs cells slots Q (F0 m (pc + 3) ls rest)) : W p l e R s m args below meth c H locs cells slots Q (F0 m pc ls st0) :=
  gs_xkv hS hle hr hj (fun h H locs ce q a1 a2 hat => by rw [gk_1 h]; exact kx h H locs ce q a1 a2 hat) (fun h H locs a1 a2 => by rw [gk_0 h]; exact kk h H locs a1 a2)
end GY
end
section
def fcJ_isBelow (p0 : Int32) (p1 : Int32) : Option (Int32) := if p0 < 0 then (some (0 : Int32)) else if p1 ≤ p0 then (some (0 : Int32)) else some (1 : Int32)
def fcJ_needKnown (p0 : Int32) : Option (Nat) := if ¬ p0 = 0 then (some 0) else some 1
def fcJ_needRange (p0 : Int32) : Option (Nat) := if ¬ p0 = 0 then (some 0) else some 2
def fcJ_rule_56 (u : g_S) (x1 : Int32) (x2 : Int32) (x3 : Int32) (x4 : Int32) (x5 : Int32) (y0 : Int32) : Option (Nat × g_S) := (fcJ_needRange y0).bind fun v9 => if v9 = 0 then (ck x1 8 <| gl (g_sA u 0 x1 x2) fun u10 => ck x1 8 <| gl (g_sA u10 1 x1 x3) fun u11 => ck x1 8 <| gl (g_sA u11 2 x1 x4) fun u12 => ck x1 8 <| gl (g_sA u12 3 x1 x5) fun u13 => some (0, u13)) else some (v9, u)
def fcJ_rule (u : g_S) (p1 : Int32) (p2 : Int32) (p3 : Int32) (p4 : Int32) (p5 : Int32) : Option (Nat × g_S) := (fcJ_isBelow p1 (8 : Int32)).bind fun v1 => (fcJ_needKnown v1).bind fun v2 => if v2 = 0 then ((fcJ_isBelow p2 (20001 : Int32)).bind fun v3 => (fcJ_needRange v3).bind fun v4 => if v4 = 0 then ((fcJ_isBelow p3 (100001 : Int32)).bind fun v5 => (fcJ_needRange v5).bind fun v6 => if v6 = 0 then ((fcJ_isBelow p4 (101 : Int32)).bind fun v7 => (fcJ_needRange v7).bind fun v8 => if v8 = 0 then (if p5 < (1 : Int32) then (fcJ_rule_56 u p1 p2 p3 p4 p5 (0 : Int32)) else if (100 : Int32) < p5 then (fcJ_rule_56 u p1 p2 p3 p4 p5 (0 : Int32)) else fcJ_rule_56 u p1 p2 p3 p4 p5 (1 : Int32)) else some (v8, u)) else some (v6, u)) else some (v4, u)) else some (v2, u)
def fcJ_weight_23 (u : g_S) (x1 : Int32) (x2 : Int32) (x3 : Int32) (y0 : Int32) : Option (Nat × g_S) := (fcJ_needKnown y0).bind fun v2 => if v2 = 0 then ((fcJ_isBelow x3 (101 : Int32)).bind fun v3 => (fcJ_needRange v3).bind fun v4 => if v4 = 0 then (ck ((x1 * (32 : Int32)) + x2) 256 <| gl (g_sA u 4 ((x1 * (32 : Int32)) + x2) x3) fun u5 => some (0, u5)) else some (v4, u)) else some (v2, u)
def fcJ_weight (u : g_S) (p1 : Int32) (p2 : Int32) (p3 : Int32) : Option (Nat × g_S) := (fcJ_isBelow p1 (8 : Int32)).bind fun v1 => if v1 = 0 then (fcJ_weight_23 u p1 p2 p3 (0 : Int32)) else (fcJ_isBelow p2 (32 : Int32)).bind fun v6 => if v6 = 0 then (fcJ_weight_23 u p1 p2 p3 (0 : Int32)) else fcJ_weight_23 u p1 p2 p3 (1 : Int32)
def fcJ_needRoom (p0 : Int32) : Option (Nat) := if ¬ p0 = 0 then (some 0) else some 4
def fcR_append (u : g_S) (p1 : Int32) (p2 : Int32) : Option (Int32 × g_S) := ck p1 8 <| ck ((p1 * (8 : Int32)) + (u.2 5 p1.toNatClampNeg)) 64 <| gl (g_sA u 6 ((p1 * (8 : Int32)) + (u.2 5 p1.toNatClampNeg)) p2) fun u1 => ck p1 8 <| ck p1 8 <| gl (g_sA u1 5 p1 ((u1.2 5 p1.toNatClampNeg) + (1 : Int32))) fun u2 => ck p1 8 <| some ((u2.2 5 p1.toNatClampNeg), u2)
def fcJ_point_37 (u : g_S) (x1 : Int32) (x2 : Int32) (y0 : Int32) : Option (Nat × Int32 × g_S) := (fcJ_needRoom y0).bind fun v5 => if v5 = 0 then ((fcR_append u x1 x2).bind fun v6 => some (0, v6.1, v6.2)) else some (v5, (0 : Int32), u)
def fcJ_point (u : g_S) (p1 : Int32) (p2 : Int32) : Option (Nat × Int32 × g_S) := (fcJ_isBelow p1 (8 : Int32)).bind fun v1 => (fcJ_needKnown v1).bind fun v2 => if v2 = 0 then ((fcJ_isBelow p2 (100000000 : Int32)).bind fun v3 => (fcJ_needRange v3).bind fun v4 => if v4 = 0 then (ck p1 8 <| if (8 : Int32) ≤ (u.2 5 p1.toNatClampNeg) then (fcJ_point_37 u p1 p2 (0 : Int32)) else fcJ_point_37 u p1 p2 (1 : Int32)) else some (v4, (0 : Int32), u)) else some (v2, (0 : Int32), u)
def fcA_latestTime (u : g_S)  : Option (Int32) := if ¬ (u.1 0) = 0 then (ck ((u.1 0) - (1 : Int32)) 121 <| some (u.2 12 ((u.1 0) - (1 : Int32)).toNatClampNeg)) else some (0 : Int32)
def fcJ_needCallData_62 (u : g_S) (x5 : Int32) (y0 : Int32) : Option (Nat) := (fcJ_needRange y0).bind fun v6 => if v6 = 0 then ((fcA_latestTime u ).bind fun v7 => if x5 < v7 then ((fcJ_needRange (0 : Int32)).bind fun v8 => if v8 = 0 then (some 0) else some v8) else (fcJ_needRange (1 : Int32)).bind fun v9 => if v9 = 0 then (some 0) else some v9) else some v6
def fcJ_needCallData_30 (u : g_S) (x1 : Int32) (x3 : Int32) (x5 : Int32) (y0 : Int32) : Option (Nat) := (fcJ_needKnown y0).bind fun v3 => if v3 = 0 then ((fcJ_isBelow x1 (1000 : Int32)).bind fun v4 => (fcJ_needRange v4).bind fun v5 => if v5 = 0 then (if x3 = (-1 : Int32) then (fcJ_needCallData_62 u x5 (1 : Int32)) else (fcJ_isBelow x3 (100000000 : Int32)).bind fun v10 => if v10 = 0 then (fcJ_needCallData_62 u x5 (0 : Int32)) else fcJ_needCallData_62 u x5 (1 : Int32)) else some v5) else some v3
def fcJ_needCallData (u : g_S) (p1 : Int32) (p2 : Int32) (p3 : Int32) (p4 : Int32) (p5 : Int32) : Option (Nat) := (fcJ_isBelow p2 (8 : Int32)).bind fun v1 => (fcJ_needKnown v1).bind fun v2 => if v2 = 0 then (if p4 = (-1 : Int32) then (fcJ_needCallData_30 u p1 p3 p5 (1 : Int32)) else (fcJ_isBelow p4 (8 : Int32)).bind fun v11 => if v11 = 0 then (fcJ_needCallData_30 u p1 p3 p5 (0 : Int32)) else fcJ_needCallData_30 u p1 p3 p5 (1 : Int32)) else some v2
def fcA_draft (u : g_S) (p1 : Int32) (p2 : Int32) (p3 : Int32) (p4 : Int32) (p5 : Int32) (p6 : Int32) : Option (Int32 × g_S) := ck (u.1 0) 121 <| gl (g_sA u 7 (u.1 0) p1) fun u1 => ck (u1.1 0) 121 <| gl (g_sA u1 8 (u1.1 0) p2) fun u2 => ck (u2.1 0) 121 <| gl (g_sA u2 9 (u2.1 0) p3) fun u3 => ck (u3.1 0) 121 <| gl (g_sA u3 10 (u3.1 0) p4) fun u4 => ck (u4.1 0) 121 <| gl (g_sA u4 11 (u4.1 0) p5) fun u5 => ck (u5.1 0) 121 <| gl (g_sA u5 12 (u5.1 0) p6) fun u6 => ck (u6.1 0) 121 <| gl (g_sA u6 14 (u6.1 0) (-1 : Int32)) fun u7 => ck (u7.1 0) 121 <| gl (g_sA u7 15 (u7.1 0) (0 : Int32)) fun u8 => ck (u8.1 0) 121 <| gl (g_sA u8 16 (u8.1 0) (0 : Int32)) fun u9 => some ((u9.1 0), u9)
def fcA_isHoax (u : g_S) (p1 : Int32) : Option (Int32) := ck p1 121 <| if ((u.2 16 p1.toNatClampNeg) &&& (4 : Int32)) = 0 then (some (0 : Int32)) else some (1 : Int32)
def fcJ_isInOpenEvent (u : g_S) (p1 : Int32) : Option (Int32) := ck p1 121 <| ck (u.2 13 p1.toNatClampNeg) 60 <| if ¬ (u.2 17 (u.2 13 p1.toNatClampNeg).toNatClampNeg) = 0 then (some (0 : Int32)) else some (1 : Int32)
def fcJ_canBeReason (u : g_S) (p1 : Int32) : Option (Int32) := (fcA_isHoax u p1).bind fun v1 => if ¬ v1 = 0 then (some (0 : Int32)) else (fcJ_isInOpenEvent u p1).bind fun v2 => if v2 = 0 then (some (0 : Int32)) else some (1 : Int32)
def fcJ_isWithinSpan (u : g_S) (p1 : Int32) (p2 : Int32) : Option (Int32) := ck p2 121 <| ck p1 121 <| ck p2 121 <| ck (u.2 8 p2.toNatClampNeg) 8 <| if (u.2 1 (u.2 8 p2.toNatClampNeg).toNatClampNeg) < ((u.2 12 p2.toNatClampNeg) - (u.2 12 p1.toNatClampNeg)) then (some (0 : Int32)) else some (1 : Int32)
def fcJ_latestOfLine_10 (u : g_S) : Nat → Int32 → Int32 → Option (Int32)
  | 0, _, _ => none
  | n + 1, x1, x2 => if x2 < 0 then (some (-1 : Int32)) else ck x2 121 <| ck x1 121 <| if ¬ (u.2 7 x2.toNatClampNeg) = (u.2 7 x1.toNatClampNeg) then (fcJ_latestOfLine_10 u n x1 (x2 + (-1 : Int32))) else (fcJ_canBeReason u x2).bind fun v2 => if v2 = 0 then (fcJ_latestOfLine_10 u n x1 (x2 + (-1 : Int32))) else (fcJ_isWithinSpan u x2 x1).bind fun v3 => if v3 = 0 then (some (-1 : Int32)) else some x2
def fcJ_latestOfLine (u : g_S) (p1 : Int32) : Option (Int32) := gl ((u.1 0) - (1 : Int32)) fun w1 => fcJ_latestOfLine_10 u 200 p1 w1
theorem fcJ_latestOfLine_10_s (u : g_S) (n : Nat) (x1 : Int32) (x2 : Int32) : fcJ_latestOfLine_10 u (n + 1) x1 x2 = (if x2 < 0 then (some (-1 : Int32)) else ck x2 121 <| ck x1 121 <| if ¬ (u.2 7 x2.toNatClampNeg) = (u.2 7 x1.toNatClampNeg) then (fcJ_latestOfLine_10 u n x1 (x2 + (-1 : Int32))) else (fcJ_canBeReason u x2).bind fun v2 => if v2 = 0 then (fcJ_latestOfLine_10 u n x1 (x2 + (-1 : Int32))) else (fcJ_isWithinSpan u x2 x1).bind fun v3 => if v3 = 0 then (some (-1 : Int32)) else some x2) := rfl
def fcJ_takeReason (u : g_S) (p1 : Int32) (p2 : Int32) (p3 : Int32) : Option (Int32 × g_S) := if ¬ p2 = (-1 : Int32) then (ck p1 121 <| gl (g_sA u 14 p1 p2) fun u1 => ck p1 121 <| gl (g_sA u1 15 p1 p3) fun u2 => some ((1 : Int32), u2)) else some ((0 : Int32), u)
def fcE_isWatchedFor (u : g_S) (p1 : Int32) (p2 : Int32) : Option (Int32) := ck p1 60 <| if ¬ (u.2 17 p1.toNatClampNeg) = 0 then (some (0 : Int32)) else ck p1 60 <| if ¬ (u.2 18 p1.toNatClampNeg) = p2 then (some (0 : Int32)) else ck p1 60 <| if (u.2 20 p1.toNatClampNeg) = (-1 : Int32) then (some (0 : Int32)) else some (1 : Int32)
def fcJ_eastOf (p0 : Int32) : Option (Int32) := some (p0 / (10000 : Int32))
def fcJ_northOf (p0 : Int32) : Option (Int32) := some (p0 - p0 / (10000 : Int32) * (10000 : Int32))
def fcJ_squareBetween (p0 : Int32) (p1 : Int32) : Option (Int64) := (fcJ_eastOf p0).bind fun v1 => (fcJ_eastOf p1).bind fun v2 => gl (Int32.toInt64 (v1 - v2)) fun w3 => (fcJ_northOf p0).bind fun v4 => (fcJ_northOf p1).bind fun v5 => gl (Int32.toInt64 (v4 - v5)) fun w6 => some ((w3 * w3) + (w6 * w6))
def fcR_isNearPiece (p0 : Int32) (p1 : Int32) (p2 : Int32) : Option (Int32) := (fcJ_eastOf p1).bind fun v1 => (fcJ_eastOf p0).bind fun v2 => gl (Int32.toInt64 (v1 - v2)) fun w3 => (fcJ_northOf p1).bind fun v4 => (fcJ_northOf p0).bind fun v5 => gl (Int32.toInt64 (v4 - v5)) fun w6 => (fcJ_eastOf p2).bind fun v7 => (fcJ_eastOf p0).bind fun v8 => gl (Int32.toInt64 (v7 - v8)) fun w9 => (fcJ_northOf p2).bind fun v10 => (fcJ_northOf p0).bind fun v11 => gl (Int32.toInt64 (v10 - v11)) fun w12 => gl ((w9 * w3) + (w12 * w6)) fun w13 => gl ((w3 * w3) + (w6 * w6)) fun w14 => if 0 < (lg_cmp w13 (0 : Int64)) then (if (lg_cmp w13 w14) < 0 then (gl ((w9 * w6) - (w12 * w3)) fun w15 => if 0 < (lg_cmp (w15 * w15) ((2500 : Int64) * w14)) then (some (0 : Int32)) else some (1 : Int32)) else (fcJ_squareBetween p1 p2).bind fun v16 => if 0 < (lg_cmp v16 (2500 : Int64)) then (some (0 : Int32)) else some (1 : Int32)) else (fcJ_squareBetween p0 p2).bind fun v17 => if 0 < (lg_cmp v17 (2500 : Int64)) then (some (0 : Int32)) else some (1 : Int32)
def fcR_isNear_9 (u : g_S) : Nat → Int32 → Int32 → Int32 → Int32 → Option (Int32)
  | 0, _, _, _, _ => none
  | n + 1, x3, x4, x5, x6 => if x3 ≤ x6 then (some (0 : Int32)) else ck (x5 + x6) 64 <| ck ((x5 + x6) + (1 : Int32)) 64 <| (fcR_isNearPiece (u.2 6 (x5 + x6).toNatClampNeg) (u.2 6 ((x5 + x6) + (1 : Int32)).toNatClampNeg) x4).bind fun v2 => if v2 = 0 then (fcR_isNear_9 u n x3 x4 x5 (x6 + (1 : Int32))) else some (1 : Int32)
def fcR_isNear (u : g_S) (p1 : Int32) (p2 : Int32) (p3 : Int32) (p4 : Int32) : Option (Int32) := gl (p1 * (8 : Int32)) fun w1 => fcR_isNear_9 u 200 p3 p4 w1 p2
theorem fcR_isNear_9_s (u : g_S) (n : Nat) (x3 : Int32) (x4 : Int32) (x5 : Int32) (x6 : Int32) : fcR_isNear_9 u (n + 1) x3 x4 x5 x6 = (if x3 ≤ x6 then (some (0 : Int32)) else ck (x5 + x6) 64 <| ck ((x5 + x6) + (1 : Int32)) 64 <| (fcR_isNearPiece (u.2 6 (x5 + x6).toNatClampNeg) (u.2 6 ((x5 + x6) + (1 : Int32)).toNatClampNeg) x4).bind fun v2 => if v2 = 0 then (fcR_isNear_9 u n x3 x4 x5 (x6 + (1 : Int32))) else some (1 : Int32)) := rfl
def fcJ_isOnStretch (u : g_S) (p1 : Int32) (p2 : Int32) : Option (Int32) := ck p2 60 <| gl (u.2 20 p2.toNatClampNeg) fun w1 => ck p1 121 <| gl (u.2 9 p1.toNatClampNeg) fun w2 => if ¬ w2 = (-1 : Int32) then (ck p2 60 <| ck p2 60 <| (fcR_isNear u w1 (u.2 21 p2.toNatClampNeg) (u.2 22 p2.toNatClampNeg) w2).bind fun v3 => if v3 = 0 ∨ v3 = 1 then some v3 else none) else ck p1 121 <| if ¬ (u.2 11 p1.toNatClampNeg) = w1 then (some (0 : Int32)) else some (1 : Int32)
def fcJ_firstOnStretch_2 (u : g_S) : Nat → Int32 → Int32 → Option (Int32)
  | 0, _, _ => none
  | n + 1, x1, x2 => if (u.1 1) ≤ x2 then (some (-1 : Int32)) else ck x1 121 <| (fcE_isWatchedFor u x2 (u.2 8 x1.toNatClampNeg)).bind fun v1 => if v1 = 0 then (fcJ_firstOnStretch_2 u n x1 (x2 + (1 : Int32))) else (fcJ_isOnStretch u x1 x2).bind fun v2 => if v2 = 0 then (fcJ_firstOnStretch_2 u n x1 (x2 + (1 : Int32))) else ck x2 60 <| some (u.2 19 x2.toNatClampNeg)
def fcJ_firstOnStretch (u : g_S) (p1 : Int32) : Option (Int32) := fcJ_firstOnStretch_2 u 200 p1 (0 : Int32)
theorem fcJ_firstOnStretch_2_s (u : g_S) (n : Nat) (x1 : Int32) (x2 : Int32) : fcJ_firstOnStretch_2 u (n + 1) x1 x2 = (if (u.1 1) ≤ x2 then (some (-1 : Int32)) else ck x1 121 <| (fcE_isWatchedFor u x2 (u.2 8 x1.toNatClampNeg)).bind fun v1 => if v1 = 0 then (fcJ_firstOnStretch_2 u n x1 (x2 + (1 : Int32))) else (fcJ_isOnStretch u x1 x2).bind fun v2 => if v2 = 0 then (fcJ_firstOnStretch_2 u n x1 (x2 + (1 : Int32))) else ck x2 60 <| some (u.2 19 x2.toNatClampNeg)) := rfl
def fcJ_isCandidate (u : g_S) (p1 : Int32) (p2 : Int32) : Option (Int32) := ck p1 121 <| ck p2 121 <| if ¬ (u.2 8 p1.toNatClampNeg) = (u.2 8 p2.toNatClampNeg) then (some (0 : Int32)) else (fcJ_canBeReason u p1).bind fun v1 => if v1 = 0 then (some (0 : Int32)) else some (1 : Int32)
def fcU_weigh_8 (u : g_S) : Nat → Int32 → Int32 → Int32 → Int32 → Option (Int32)
  | 0, _, _, _, _ => none
  | n + 1, x1, x3, x4, x5 => if (32 : Int32) ≤ x5 then (some x3) else if x4 = 0 then (some x3) else if ¬ (x4 &&& (1 : Int32)) = (1 : Int32) then (gl ((x4.toUInt32 >>> (Int32.toUInt32 (1 : Int32) &&& Int32.toUInt32 31)).toInt32) fun w1 => fcU_weigh_8 u n x1 x3 w1 (x5 + (1 : Int32))) else ck ((x1 * (32 : Int32)) + x5) 256 <| gl (x3 + (u.2 4 ((x1 * (32 : Int32)) + x5).toNatClampNeg)) fun w2 => gl ((x4.toUInt32 >>> (Int32.toUInt32 (1 : Int32) &&& Int32.toUInt32 31)).toInt32) fun w3 => fcU_weigh_8 u n x1 w2 w3 (x5 + (1 : Int32))
def fcU_weigh (u : g_S) (p1 : Int32) (p2 : Int32) : Option (Int32) := fcU_weigh_8 u 200 p1 (0 : Int32) p2 (0 : Int32)
theorem fcU_weigh_8_s (u : g_S) (n : Nat) (x1 : Int32) (x3 : Int32) (x4 : Int32) (x5 : Int32) : fcU_weigh_8 u (n + 1) x1 x3 x4 x5 = (if (32 : Int32) ≤ x5 then (some x3) else if x4 = 0 then (some x3) else if ¬ (x4 &&& (1 : Int32)) = (1 : Int32) then (gl ((x4.toUInt32 >>> (Int32.toUInt32 (1 : Int32) &&& Int32.toUInt32 31)).toInt32) fun w1 => fcU_weigh_8 u n x1 x3 w1 (x5 + (1 : Int32))) else ck ((x1 * (32 : Int32)) + x5) 256 <| gl (x3 + (u.2 4 ((x1 * (32 : Int32)) + x5).toNatClampNeg)) fun w2 => gl ((x4.toUInt32 >>> (Int32.toUInt32 (1 : Int32) &&& Int32.toUInt32 31)).toInt32) fun w3 => fcU_weigh_8 u n x1 w2 w3 (x5 + (1 : Int32))) := rfl
def fcU_meetsNeed (u : g_S) (p1 : Int32) (p2 : Int32) (p3 : Int32) : Option (Int32) := ck p1 8 <| ck p1 8 <| if (p2 * (u.2 3 p1.toNatClampNeg)) < ((u.2 2 p1.toNatClampNeg) * p3) then (some (0 : Int32)) else some (1 : Int32)
def fcJ_agreement_144 (u : g_S) (x7 : Int32) : Option (Int32) := if x7 = 0 then (some (0 : Int32)) else some (2 : Int32)
def fcJ_agreement_244 (u : g_S) (y0 : Int32) : Option (Int32) := if y0 = 0 then (some (0 : Int32)) else some (1 : Int32)
def fcJ_agreement_116 (u : g_S) (x1 : Int32) (x2 : Int32) (x3 : Int32) (x6 : Int32) (y0 : Int32) : Option (Int32) := ck x1 121 <| if (u.2 9 x1.toNatClampNeg) = (-1 : Int32) then (fcJ_agreement_144 u y0) else ck x2 121 <| if ¬ (u.2 9 x2.toNatClampNeg) = (-1 : Int32) then (ck x1 121 <| ck x2 121 <| (fcJ_squareBetween (u.2 9 x1.toNatClampNeg) (u.2 9 x2.toNatClampNeg)).bind fun v5 => ck x3 8 <| ck x3 8 <| gl ((Int32.toInt64 (u.2 0 x3.toNatClampNeg)) * (Int32.toInt64 (u.2 0 x3.toNatClampNeg))) fun w6 => if x6 = 0 then (if 0 < (lg_cmp ((4 : Int64) * v5) w6) then (fcJ_agreement_244 u (0 : Int32)) else fcJ_agreement_244 u (1 : Int32)) else if y0 = 0 then (fcJ_agreement_244 u (0 : Int32)) else if 0 < (lg_cmp v5 w6) then (fcJ_agreement_244 u (0 : Int32)) else fcJ_agreement_244 u (1 : Int32)) else fcJ_agreement_144 u y0
def fcJ_agreement_89 (u : g_S) (x1 : Int32) (x2 : Int32) (x3 : Int32) (x4 : Int32) (x5 : Int32) (y0 : Int32) : Option (Int32) := if y0 = 0 then (fcJ_agreement_116 u x1 x2 x3 y0 (0 : Int32)) else (fcU_meetsNeed u x3 x5 x4).bind fun v7 => if v7 = 0 then (fcJ_agreement_116 u x1 x2 x3 y0 (0 : Int32)) else fcJ_agreement_116 u x1 x2 x3 y0 (1 : Int32)
def fcJ_agreement (u : g_S) (p1 : Int32) (p2 : Int32) : Option (Int32) := (fcJ_isWithinSpan u p1 p2).bind fun v1 => if ¬ v1 = 0 then (ck p2 121 <| gl (u.2 8 p2.toNatClampNeg) fun w2 => ck p1 121 <| ck p2 121 <| (fcU_weigh u w2 ((u.2 10 p1.toNatClampNeg) ||| (u.2 10 p2.toNatClampNeg))).bind fun v3 => ck p1 121 <| ck p2 121 <| (fcU_weigh u w2 ((u.2 10 p1.toNatClampNeg) &&& (u.2 10 p2.toNatClampNeg))).bind fun v4 => if v3 ≤ 0 then (fcJ_agreement_89 u p1 p2 w2 v3 v4 (0 : Int32)) else fcJ_agreement_89 u p1 p2 w2 v3 v4 (1 : Int32)) else some (0 : Int32)
def fcJ_nearestByPlace_7 (u : g_S) : Nat → Int32 → Int32 → Int64 → Int32 → Option (Int32)
  | 0, _, _, _, _ => none
  | n + 1, x1, x2, x3, x5 => if (u.1 0) ≤ x5 then (some x2) else (fcJ_isCandidate u x5 x1).bind fun v1 => if v1 = 0 then (fcJ_nearestByPlace_7 u n x1 x2 x3 (x5 + (1 : Int32))) else (fcJ_agreement u x5 x1).bind fun v2 => if ¬ v2 = (1 : Int32) then (fcJ_nearestByPlace_7 u n x1 x2 x3 (x5 + (1 : Int32))) else ck x5 121 <| ck x1 121 <| (fcJ_squareBetween (u.2 9 x5.toNatClampNeg) (u.2 9 x1.toNatClampNeg)).bind fun v3 => if x2 = (-1 : Int32) then (fcJ_nearestByPlace_7 u n x1 x5 v3 (x5 + (1 : Int32))) else if 0 ≤ (lg_cmp v3 x3) then (fcJ_nearestByPlace_7 u n x1 x2 x3 (x5 + (1 : Int32))) else fcJ_nearestByPlace_7 u n x1 x5 v3 (x5 + (1 : Int32))
def fcJ_nearestByPlace (u : g_S) (p1 : Int32) : Option (Int32) := fcJ_nearestByPlace_7 u 200 p1 (-1 : Int32) (0 : Int64) (0 : Int32)
theorem fcJ_nearestByPlace_7_s (u : g_S) (n : Nat) (x1 : Int32) (x2 : Int32) (x3 : Int64) (x5 : Int32) : fcJ_nearestByPlace_7 u (n + 1) x1 x2 x3 x5 = (if (u.1 0) ≤ x5 then (some x2) else (fcJ_isCandidate u x5 x1).bind fun v1 => if v1 = 0 then (fcJ_nearestByPlace_7 u n x1 x2 x3 (x5 + (1 : Int32))) else (fcJ_agreement u x5 x1).bind fun v2 => if ¬ v2 = (1 : Int32) then (fcJ_nearestByPlace_7 u n x1 x2 x3 (x5 + (1 : Int32))) else ck x5 121 <| ck x1 121 <| (fcJ_squareBetween (u.2 9 x5.toNatClampNeg) (u.2 9 x1.toNatClampNeg)).bind fun v3 => if x2 = (-1 : Int32) then (fcJ_nearestByPlace_7 u n x1 x5 v3 (x5 + (1 : Int32))) else if 0 ≤ (lg_cmp v3 x3) then (fcJ_nearestByPlace_7 u n x1 x2 x3 (x5 + (1 : Int32))) else fcJ_nearestByPlace_7 u n x1 x5 v3 (x5 + (1 : Int32))) := rfl
def fcJ_greatestShare_21 (u : g_S) : Nat → Int32 → Int32 → Int32 → Int32 → Int32 → Int32 → Option (Int32)
  | 0, _, _, _, _, _, _ => none
  | n + 1, x1, x2, x3, x4, x5, x6 => if (u.1 0) ≤ x6 then (some x3) else (fcJ_isCandidate u x6 x1).bind fun v2 => if v2 = 0 then (fcJ_greatestShare_21 u n x1 x2 x3 x4 x5 (x6 + (1 : Int32))) else (fcJ_agreement u x6 x1).bind fun v3 => if ¬ v3 = (2 : Int32) then (fcJ_greatestShare_21 u n x1 x2 x3 x4 x5 (x6 + (1 : Int32))) else ck x6 121 <| ck x1 121 <| (fcU_weigh u x2 ((u.2 10 x6.toNatClampNeg) &&& (u.2 10 x1.toNatClampNeg))).bind fun v4 => ck x6 121 <| ck x1 121 <| (fcU_weigh u x2 ((u.2 10 x6.toNatClampNeg) ||| (u.2 10 x1.toNatClampNeg))).bind fun v5 => if x3 = (-1 : Int32) then (fcJ_greatestShare_21 u n x1 x2 x6 v4 v5 (x6 + (1 : Int32))) else if (v4 * x5) ≤ (x4 * v5) then (fcJ_greatestShare_21 u n x1 x2 x3 x4 x5 (x6 + (1 : Int32))) else fcJ_greatestShare_21 u n x1 x2 x6 v4 v5 (x6 + (1 : Int32))
def fcJ_greatestShare (u : g_S) (p1 : Int32) : Option (Int32) := ck p1 121 <| gl (u.2 8 p1.toNatClampNeg) fun w1 => fcJ_greatestShare_21 u 200 p1 w1 (-1 : Int32) (0 : Int32) (1 : Int32) (0 : Int32)
theorem fcJ_greatestShare_21_s (u : g_S) (n : Nat) (x1 : Int32) (x2 : Int32) (x3 : Int32) (x4 : Int32) (x5 : Int32) (x6 : Int32) : fcJ_greatestShare_21 u (n + 1) x1 x2 x3 x4 x5 x6 = (if (u.1 0) ≤ x6 then (some x3) else (fcJ_isCandidate u x6 x1).bind fun v2 => if v2 = 0 then (fcJ_greatestShare_21 u n x1 x2 x3 x4 x5 (x6 + (1 : Int32))) else (fcJ_agreement u x6 x1).bind fun v3 => if ¬ v3 = (2 : Int32) then (fcJ_greatestShare_21 u n x1 x2 x3 x4 x5 (x6 + (1 : Int32))) else ck x6 121 <| ck x1 121 <| (fcU_weigh u x2 ((u.2 10 x6.toNatClampNeg) &&& (u.2 10 x1.toNatClampNeg))).bind fun v4 => ck x6 121 <| ck x1 121 <| (fcU_weigh u x2 ((u.2 10 x6.toNatClampNeg) ||| (u.2 10 x1.toNatClampNeg))).bind fun v5 => if x3 = (-1 : Int32) then (fcJ_greatestShare_21 u n x1 x2 x6 v4 v5 (x6 + (1 : Int32))) else if (v4 * x5) ≤ (x4 * v5) then (fcJ_greatestShare_21 u n x1 x2 x3 x4 x5 (x6 + (1 : Int32))) else fcJ_greatestShare_21 u n x1 x2 x6 v4 v5 (x6 + (1 : Int32))) := rfl
def fcJ_seekReason (u : g_S) (p1 : Int32) : Option (g_S) := (fcJ_latestOfLine u p1).bind fun v1 => (fcJ_takeReason u p1 v1 (1 : Int32)).bind fun v2 => if v2.1 = 0 then ((fcJ_firstOnStretch v2.2 p1).bind fun v3 => (fcJ_takeReason v2.2 p1 v3 (2 : Int32)).bind fun v4 => if v4.1 = 0 then ((fcJ_nearestByPlace v4.2 p1).bind fun v5 => (fcJ_takeReason v4.2 p1 v5 (3 : Int32)).bind fun v6 => if v6.1 = 0 then ((fcJ_greatestShare v6.2 p1).bind fun v7 => (fcJ_takeReason v6.2 p1 v7 (4 : Int32)).bind fun v8 => some v8.2) else some v6.2) else some v4.2) else some v2.2
def fcE_begin (u : g_S) (p1 : Int32) (p2 : Int32) : Option (Int32 × g_S) := ck (u.1 1) 60 <| gl (g_sA u 17 (u.1 1) (0 : Int32)) fun u1 => ck (u1.1 1) 60 <| gl (g_sA u1 18 (u1.1 1) p1) fun u2 => ck (u2.1 1) 60 <| gl (g_sA u2 19 (u2.1 1) p2) fun u3 => ck (u3.1 1) 60 <| gl (g_sA u3 20 (u3.1 1) (-1 : Int32)) fun u4 => gl (g_sI u4 1 ((u4.1 1) + (1 : Int32))) fun u5 => some (((u5.1 1) - (1 : Int32)), u5)
def fcJ_call_136 (u : g_S) (x7 : Int32) : Option (Nat × Int32 × g_S) := gl (g_sI u 0 ((u.1 0) + (1 : Int32))) fun u7 => some (0, x7, u7)
def fcJ_call_90 (u : g_S) (x2 : Int32) (x7 : Int32) (y0 : Int32) : Option (Nat × Int32 × g_S) := (fcJ_needRoom y0).bind fun v8 => if v8 = 0 then ((fcE_begin u x2 x7).bind fun v9 => ck x7 121 <| gl (g_sA v9.2 13 x7 v9.1) fun u10 => fcJ_call_136 u10 x7) else some (v8, (0 : Int32), u)
def fcJ_call_28 (u : g_S) (x1 : Int32) (x2 : Int32) (x3 : Int32) (x4 : Int32) (x5 : Int32) (x6 : Int32) (y0 : Int32) : Option (Nat × Int32 × g_S) := (fcJ_needRoom y0).bind fun v2 => if v2 = 0 then ((fcA_draft u x1 x2 x3 x4 x5 x6).bind fun v3 => (fcJ_seekReason v3.2 v3.1).bind fun v4 => ck v3.1 121 <| gl (v4.2 14 v3.1.toNatClampNeg) fun w5 => if ¬ w5 = (-1 : Int32) then (ck w5 121 <| ck v3.1 121 <| gl (g_sA v4 13 v3.1 (v4.2 13 w5.toNatClampNeg)) fun u6 => fcJ_call_136 u6 v3.1) else if (60 : Int32) ≤ (v4.1 1) then (fcJ_call_90 v4 x2 v3.1 (0 : Int32)) else fcJ_call_90 v4 x2 v3.1 (1 : Int32)) else some (v2, (0 : Int32), u)
def fcJ_call (u : g_S) (p1 : Int32) (p2 : Int32) (p3 : Int32) (p4 : Int32) (p5 : Int32) (p6 : Int32) : Option (Nat × Int32 × g_S) := (fcJ_needCallData u p1 p2 p3 p5 p6).bind fun v1 => if v1 = 0 then (if (120 : Int32) ≤ (u.1 0) then (fcJ_call_28 u p1 p2 p3 p4 p5 p6 (0 : Int32)) else fcJ_call_28 u p1 p2 p3 p4 p5 p6 (1 : Int32)) else some (v1, (0 : Int32), u)
def fcJ_reasonFor (u : g_S) (p1 : Int32) (p2 : Int32) (p3 : Int32) (p4 : Int32) (p5 : Int32) (p6 : Int32) : Option (Nat × Int32 × g_S) := (fcJ_needCallData u p1 p2 p3 p5 p6).bind fun v1 => if v1 = 0 then ((fcA_draft u p1 p2 p3 p4 p5 p6).bind fun v2 => (fcJ_seekReason v2.2 v2.1).bind fun v3 => ck v2.1 121 <| some (0, (v3.2 14 v2.1.toNatClampNeg), v3)) else some (v1, (0 : Int32), u)
def fcJ_mark (u : g_S) (p1 : Int32) (p2 : Int32) : Option (Nat × g_S) := (fcJ_isBelow p1 (u.1 0)).bind fun v1 => (fcJ_needKnown v1).bind fun v2 => if v2 = 0 then ((fcJ_isBelow p2 (8 : Int32)).bind fun v3 => (fcJ_needRange v3).bind fun v4 => if v4 = 0 then (ck p1 121 <| gl (g_sA u 16 p1 p2) fun u5 => some (0, u5)) else some (v4, u)) else some (v2, u)
def fcJ_needState (p0 : Int32) : Option (Nat) := if ¬ p0 = 0 then (some 0) else some 3
def fcA_isUnder_5 (u : g_S) : Nat → Int32 → Int32 → Int32 → Option (Int32)
  | 0, _, _, _ => none
  | n + 1, x2, x3, x4 => if (120 : Int32) ≤ x4 then (some (0 : Int32)) else if x3 = (-1 : Int32) then (some (0 : Int32)) else if ¬ x3 = x2 then (ck x3 121 <| gl (u.2 14 x3.toNatClampNeg) fun w1 => fcA_isUnder_5 u n x2 w1 (x4 + (1 : Int32))) else some (1 : Int32)
def fcA_isUnder (u : g_S) (p1 : Int32) (p2 : Int32) : Option (Int32) := fcA_isUnder_5 u 200 p2 p1 (0 : Int32)
theorem fcA_isUnder_5_s (u : g_S) (n : Nat) (x2 : Int32) (x3 : Int32) (x4 : Int32) : fcA_isUnder_5 u (n + 1) x2 x3 x4 = (if (120 : Int32) ≤ x4 then (some (0 : Int32)) else if x3 = (-1 : Int32) then (some (0 : Int32)) else if ¬ x3 = x2 then (ck x3 121 <| gl (u.2 14 x3.toNatClampNeg) fun w1 => fcA_isUnder_5 u n x2 w1 (x4 + (1 : Int32))) else some (1 : Int32)) := rfl
def fcA_moveBranch_2 : Nat → g_S → Int32 → Int32 → Int32 → Option (g_S)
  | 0, _, _, _, _ => none
  | n + 1, u, x1, x2, x3 => if (u.1 0) ≤ x3 then (some u) else (fcA_isUnder u x3 x1).bind fun v1 => if v1 = 0 then (fcA_moveBranch_2 n u x1 x2 (x3 + (1 : Int32))) else ck x3 121 <| gl (g_sA u 13 x3 x2) fun u2 => fcA_moveBranch_2 n u2 x1 x2 (x3 + (1 : Int32))
def fcA_moveBranch (u : g_S) (p1 : Int32) (p2 : Int32) : Option (g_S) := fcA_moveBranch_2 200 u p1 p2 (0 : Int32)
theorem fcA_moveBranch_2_s (u : g_S) (n : Nat) (x1 : Int32) (x2 : Int32) (x3 : Int32) : fcA_moveBranch_2 (n + 1) u x1 x2 x3 = (if (u.1 0) ≤ x3 then (some u) else (fcA_isUnder u x3 x1).bind fun v1 => if v1 = 0 then (fcA_moveBranch_2 n u x1 x2 (x3 + (1 : Int32))) else ck x3 121 <| gl (g_sA u 13 x3 x2) fun u2 => fcA_moveBranch_2 n u2 x1 x2 (x3 + (1 : Int32))) := rfl
def fcJ_split_60 (u : g_S) (x1 : Int32) (y0 : Int32) : Option (Nat × Int32 × g_S) := (fcJ_needRoom y0).bind fun v4 => if v4 = 0 then (ck x1 121 <| (fcE_begin u (u.2 8 x1.toNatClampNeg) x1).bind fun v5 => (fcA_moveBranch v5.2 x1 v5.1).bind fun v6 => ck x1 121 <| gl (g_sA v6 14 x1 (-1 : Int32)) fun u7 => ck x1 121 <| gl (g_sA u7 15 x1 (0 : Int32)) fun u8 => some (0, v5.1, u8)) else some (v4, (0 : Int32), u)
def fcJ_split_40 (u : g_S) (x1 : Int32) (y0 : Int32) : Option (Nat × Int32 × g_S) := (fcJ_needState y0).bind fun v3 => if v3 = 0 then (if (60 : Int32) ≤ (u.1 1) then (fcJ_split_60 u x1 (0 : Int32)) else fcJ_split_60 u x1 (1 : Int32)) else some (v3, (0 : Int32), u)
def fcJ_split (u : g_S) (p1 : Int32) : Option (Nat × Int32 × g_S) := (fcJ_isBelow p1 (u.1 0)).bind fun v1 => (fcJ_needKnown v1).bind fun v2 => if v2 = 0 then (ck p1 121 <| if (u.2 14 p1.toNatClampNeg) = (-1 : Int32) then (fcJ_split_40 u p1 (0 : Int32)) else (fcJ_isInOpenEvent u p1).bind fun v9 => if v9 = 0 then (fcJ_split_40 u p1 (0 : Int32)) else fcJ_split_40 u p1 (1 : Int32)) else some (v2, (0 : Int32), u)
def fcA_moveAll_2 : Nat → g_S → Int32 → Int32 → Int32 → Option (g_S)
  | 0, _, _, _, _ => none
  | n + 1, u, x1, x2, x3 => if (u.1 0) ≤ x3 then (some u) else ck x3 121 <| if ¬ (u.2 13 x3.toNatClampNeg) = x1 then (fcA_moveAll_2 n u x1 x2 (x3 + (1 : Int32))) else ck x3 121 <| gl (g_sA u 13 x3 x2) fun u1 => fcA_moveAll_2 n u1 x1 x2 (x3 + (1 : Int32))
def fcA_moveAll (u : g_S) (p1 : Int32) (p2 : Int32) : Option (g_S) := fcA_moveAll_2 200 u p1 p2 (0 : Int32)
theorem fcA_moveAll_2_s (u : g_S) (n : Nat) (x1 : Int32) (x2 : Int32) (x3 : Int32) : fcA_moveAll_2 (n + 1) u x1 x2 x3 = (if (u.1 0) ≤ x3 then (some u) else ck x3 121 <| if ¬ (u.2 13 x3.toNatClampNeg) = x1 then (fcA_moveAll_2 n u x1 x2 (x3 + (1 : Int32))) else ck x3 121 <| gl (g_sA u 13 x3 x2) fun u1 => fcA_moveAll_2 n u1 x1 x2 (x3 + (1 : Int32))) := rfl
def fcA_countIn_4 (u : g_S) : Nat → Int32 → Int32 → Int32 → Option (Int32)
  | 0, _, _, _ => none
  | n + 1, x1, x2, x3 => if (u.1 0) ≤ x3 then (some x2) else ck x3 121 <| if ¬ (u.2 13 x3.toNatClampNeg) = x1 then (fcA_countIn_4 u n x1 x2 (x3 + (1 : Int32))) else fcA_countIn_4 u n x1 (x2 + (1 : Int32)) (x3 + (1 : Int32))
def fcA_countIn (u : g_S) (p1 : Int32) : Option (Int32) := fcA_countIn_4 u 200 p1 (0 : Int32) (0 : Int32)
theorem fcA_countIn_4_s (u : g_S) (n : Nat) (x1 : Int32) (x2 : Int32) (x3 : Int32) : fcA_countIn_4 u (n + 1) x1 x2 x3 = (if (u.1 0) ≤ x3 then (some x2) else ck x3 121 <| if ¬ (u.2 13 x3.toNatClampNeg) = x1 then (fcA_countIn_4 u n x1 x2 (x3 + (1 : Int32))) else fcA_countIn_4 u n x1 (x2 + (1 : Int32)) (x3 + (1 : Int32))) := rfl
def fcJ_merge_80 (u : g_S) (x1 : Int32) (x2 : Int32) (x3 : Int32) (y0 : Int32) : Option (Nat × Int32 × g_S) := (fcJ_needState y0).bind fun v4 => if v4 = 0 then (ck x1 60 <| gl (u.2 19 x1.toNatClampNeg) fun w5 => ck w5 121 <| gl (g_sA u 14 w5 x2) fun u6 => ck w5 121 <| gl (g_sA u6 15 w5 (5 : Int32)) fun u7 => (fcA_moveAll u7 x1 x3).bind fun v8 => ck x1 60 <| gl (g_sA v8 17 x1 (3 : Int32)) fun u9 => ck x1 60 <| gl (g_sA u9 19 x1 (-1 : Int32)) fun u10 => (fcA_countIn u10 x3).bind fun v11 => some (0, v11, u10)) else some (v4, (0 : Int32), u)
def fcJ_merge_33 (u : g_S) (x1 : Int32) (x2 : Int32) (y0 : Int32) : Option (Nat × Int32 × g_S) := (fcJ_needKnown y0).bind fun v2 => if v2 = 0 then (ck x2 121 <| gl (u.2 13 x2.toNatClampNeg) fun w3 => ck x1 60 <| if ¬ (u.2 17 x1.toNatClampNeg) = 0 then (fcJ_merge_80 u x1 x2 w3 (0 : Int32)) else ck w3 60 <| if ¬ (u.2 17 w3.toNatClampNeg) = 0 then (fcJ_merge_80 u x1 x2 w3 (0 : Int32)) else if x1 = w3 then (fcJ_merge_80 u x1 x2 w3 (0 : Int32)) else fcJ_merge_80 u x1 x2 w3 (1 : Int32)) else some (v2, (0 : Int32), u)
def fcJ_merge (u : g_S) (p1 : Int32) (p2 : Int32) : Option (Nat × Int32 × g_S) := (fcJ_isBelow p1 (u.1 1)).bind fun v1 => if v1 = 0 then (fcJ_merge_33 u p1 p2 (0 : Int32)) else (fcJ_isBelow p2 (u.1 0)).bind fun v12 => if v12 = 0 then (fcJ_merge_33 u p1 p2 (0 : Int32)) else fcJ_merge_33 u p1 p2 (1 : Int32)
def fcJ_watch_95 (u : g_S) (x1 : Int32) (x2 : Int32) (x3 : Int32) (x4 : Int32) (y0 : Int32) : Option (Nat × g_S) := (fcJ_needState y0).bind fun v5 => if v5 = 0 then (ck x1 60 <| gl (g_sA u 20 x1 x2) fun u6 => ck x1 60 <| gl (g_sA u6 21 x1 (if x4 < x3 then x4 else x3)) fun u7 => ck x1 60 <| gl (g_sA u7 22 x1 (if x3 < x4 then x4 else x3)) fun u8 => some (0, u8)) else some (v5, u)
def fcJ_watch_75 (u : g_S) (x1 : Int32) (x2 : Int32) (x3 : Int32) (x4 : Int32) (y0 : Int32) : Option (Nat × g_S) := (fcJ_needRange y0).bind fun v4 => if v4 = 0 then (ck x1 60 <| if ¬ (u.2 17 x1.toNatClampNeg) = 0 then (fcJ_watch_95 u x1 x2 x3 x4 (0 : Int32)) else fcJ_watch_95 u x1 x2 x3 x4 (1 : Int32)) else some (v4, u)
def fcJ_watch_28 (u : g_S) (x1 : Int32) (x2 : Int32) (x3 : Int32) (x4 : Int32) (y0 : Int32) : Option (Nat × g_S) := (fcJ_needKnown y0).bind fun v2 => if v2 = 0 then (ck x2 8 <| (fcJ_isBelow x3 (u.2 5 x2.toNatClampNeg)).bind fun v3 => if v3 = 0 then (fcJ_watch_75 u x1 x2 x3 x4 (0 : Int32)) else ck x2 8 <| (fcJ_isBelow x4 (u.2 5 x2.toNatClampNeg)).bind fun v9 => if v9 = 0 then (fcJ_watch_75 u x1 x2 x3 x4 (0 : Int32)) else if x3 = x4 then (fcJ_watch_75 u x1 x2 x3 x4 (0 : Int32)) else fcJ_watch_75 u x1 x2 x3 x4 (1 : Int32)) else some (v2, u)
def fcJ_watch (u : g_S) (p1 : Int32) (p2 : Int32) (p3 : Int32) (p4 : Int32) : Option (Nat × g_S) := (fcJ_isBelow p1 (u.1 1)).bind fun v1 => if v1 = 0 then (fcJ_watch_28 u p1 p2 p3 p4 (0 : Int32)) else (fcJ_isBelow p2 (8 : Int32)).bind fun v10 => if v10 = 0 then (fcJ_watch_28 u p1 p2 p3 p4 (0 : Int32)) else fcJ_watch_28 u p1 p2 p3 p4 (1 : Int32)
def fcJ_state_62 (u : g_S) (x1 : Int32) (x2 : Int32) (y0 : Int32) : Option (Nat × g_S) := (fcJ_needState y0).bind fun v4 => if v4 = 0 then (ck x1 60 <| gl (g_sA u 17 x1 x2) fun u5 => some (0, u5)) else some (v4, u)
def fcJ_state_28 (u : g_S) (x1 : Int32) (x2 : Int32) (y0 : Int32) : Option (Nat × g_S) := (fcJ_needRange y0).bind fun v3 => if v3 = 0 then (ck x1 60 <| if (u.2 17 x1.toNatClampNeg) = x2 then (fcJ_state_62 u x1 x2 (0 : Int32)) else ck x1 60 <| if (u.2 17 x1.toNatClampNeg) = (3 : Int32) then (fcJ_state_62 u x1 x2 (0 : Int32)) else fcJ_state_62 u x1 x2 (1 : Int32)) else some (v3, u)
def fcJ_state (u : g_S) (p1 : Int32) (p2 : Int32) : Option (Nat × g_S) := (fcJ_isBelow p1 (u.1 1)).bind fun v1 => (fcJ_needKnown v1).bind fun v2 => if v2 = 0 then (if p2 < 0 then (fcJ_state_28 u p1 p2 (0 : Int32)) else if (2 : Int32) < p2 then (fcJ_state_28 u p1 p2 (0 : Int32)) else fcJ_state_28 u p1 p2 (1 : Int32)) else some (v2, u)
def fcJ_needTwoCalls (u : g_S) (p1 : Int32) (p2 : Int32) : Option (Nat) := (fcJ_isBelow p1 (u.1 0)).bind fun v1 => if v1 = 0 then ((fcJ_needKnown (0 : Int32)).bind fun v2 => if v2 = 0 then (some 0) else some v2) else (fcJ_isBelow p2 (u.1 0)).bind fun v3 => if v3 = 0 then ((fcJ_needKnown (0 : Int32)).bind fun v4 => if v4 = 0 then (some 0) else some v4) else if p1 = p2 then ((fcJ_needKnown (0 : Int32)).bind fun v5 => if v5 = 0 then (some 0) else some v5) else (fcJ_needKnown (1 : Int32)).bind fun v6 => if v6 = 0 then (some 0) else some v6
def fcJ_share (u : g_S) (p1 : Int32) (p2 : Int32) : Option (Nat × Int32) := (fcJ_needTwoCalls u p1 p2).bind fun v1 => if v1 = 0 then (ck (if p1 < p2 then p2 else p1) 121 <| gl (u.2 8 (if p1 < p2 then p2 else p1).toNatClampNeg) fun w2 => ck p1 121 <| ck p2 121 <| (fcU_weigh u w2 ((u.2 10 p1.toNatClampNeg) ||| (u.2 10 p2.toNatClampNeg))).bind fun v3 => if ¬ v3 = 0 then (ck p1 121 <| ck p2 121 <| (fcU_weigh u w2 ((u.2 10 p1.toNatClampNeg) &&& (u.2 10 p2.toNatClampNeg))).bind fun v4 => if v3 = 0 then none else some (0, (((1000 : Int32) * v4) / v3))) else some (5, (0 : Int32))) else some (v1, (0 : Int32))
def fcJ_agree (u : g_S) (p1 : Int32) (p2 : Int32) : Option (Nat × Int32) := (fcJ_needTwoCalls u p1 p2).bind fun v1 => if v1 = 0 then ((fcJ_agreement u (if p2 < p1 then p2 else p1) (if p1 < p2 then p2 else p1)).bind fun v2 => some (0, v2)) else some (v1, (0 : Int32))
def fcJ_callAt_27 (u : g_S) (x1 : Int32) (x2 : Int32) (y0 : Int32) : Option (Nat × Int32) := (fcJ_needKnown y0).bind fun v2 => if v2 = 0 then (if x2 = (0 : Int32) then (ck x1 121 <| some (0, (u.2 13 x1.toNatClampNeg))) else if x2 = (1 : Int32) then (ck x1 121 <| some (0, (u.2 14 x1.toNatClampNeg))) else if x2 = (2 : Int32) then (ck x1 121 <| some (0, (u.2 16 x1.toNatClampNeg))) else if x2 = (3 : Int32) then (ck x1 121 <| some (0, (u.2 8 x1.toNatClampNeg))) else ck x1 121 <| some (0, (u.2 15 x1.toNatClampNeg))) else some (v2, (0 : Int32))
def fcJ_callAt (u : g_S) (p1 : Int32) (p2 : Int32) : Option (Nat × Int32) := (fcJ_isBelow p1 (u.1 0)).bind fun v1 => if v1 = 0 then (fcJ_callAt_27 u p1 p2 (0 : Int32)) else (fcJ_isBelow p2 (5 : Int32)).bind fun v3 => if v3 = 0 then (fcJ_callAt_27 u p1 p2 (0 : Int32)) else fcJ_callAt_27 u p1 p2 (1 : Int32)
def fcA_weighCall_16 (u : g_S) (x1 : Int32) (x2 : Int32) : Option (Int32) := ck x1 121 <| if (u.2 9 x1.toNatClampNeg) = (-1 : Int32) then (some x2) else some (x2 + (1 : Int32))
def fcA_weighCall (u : g_S) (p1 : Int32) : Option (Int32) := ck p1 121 <| if ((u.2 16 p1.toNatClampNeg) &&& (1 : Int32)) = 0 then (fcA_weighCall_16 u p1 (4 : Int32)) else fcA_weighCall_16 u p1 ((4 : Int32) + (-2 : Int32))
def fcA_weighEvent_4 (u : g_S) : Nat → Int32 → Int32 → Int32 → Option (Int32)
  | 0, _, _, _ => none
  | n + 1, x1, x2, x3 => if (u.1 0) ≤ x3 then (some x2) else ck x3 121 <| if ¬ (u.2 13 x3.toNatClampNeg) = x1 then (fcA_weighEvent_4 u n x1 x2 (x3 + (1 : Int32))) else (fcA_isHoax u x3).bind fun v1 => if ¬ v1 = 0 then (fcA_weighEvent_4 u n x1 x2 (x3 + (1 : Int32))) else (fcA_weighCall u x3).bind fun v2 => gl (x2 + v2) fun w3 => fcA_weighEvent_4 u n x1 w3 (x3 + (1 : Int32))
def fcA_weighEvent (u : g_S) (p1 : Int32) : Option (Int32) := fcA_weighEvent_4 u 200 p1 (0 : Int32) (0 : Int32)
theorem fcA_weighEvent_4_s (u : g_S) (n : Nat) (x1 : Int32) (x2 : Int32) (x3 : Int32) : fcA_weighEvent_4 u (n + 1) x1 x2 x3 = (if (u.1 0) ≤ x3 then (some x2) else ck x3 121 <| if ¬ (u.2 13 x3.toNatClampNeg) = x1 then (fcA_weighEvent_4 u n x1 x2 (x3 + (1 : Int32))) else (fcA_isHoax u x3).bind fun v1 => if ¬ v1 = 0 then (fcA_weighEvent_4 u n x1 x2 (x3 + (1 : Int32))) else (fcA_weighCall u x3).bind fun v2 => gl (x2 + v2) fun w3 => fcA_weighEvent_4 u n x1 w3 (x3 + (1 : Int32))) := rfl
def fcA_pointOf_2 (u : g_S) : Nat → Int32 → Int32 → Option (Int32)
  | 0, _, _ => none
  | n + 1, x1, x2 => if (u.1 0) ≤ x2 then (some (-1 : Int32)) else ck x2 121 <| if ¬ (u.2 13 x2.toNatClampNeg) = x1 then (fcA_pointOf_2 u n x1 (x2 + (1 : Int32))) else (fcA_isHoax u x2).bind fun v1 => if ¬ v1 = 0 then (fcA_pointOf_2 u n x1 (x2 + (1 : Int32))) else ck x2 121 <| if (u.2 9 x2.toNatClampNeg) = (-1 : Int32) then (fcA_pointOf_2 u n x1 (x2 + (1 : Int32))) else ck x2 121 <| some (u.2 9 x2.toNatClampNeg)
def fcA_pointOf (u : g_S) (p1 : Int32) : Option (Int32) := fcA_pointOf_2 u 200 p1 (0 : Int32)
theorem fcA_pointOf_2_s (u : g_S) (n : Nat) (x1 : Int32) (x2 : Int32) : fcA_pointOf_2 u (n + 1) x1 x2 = (if (u.1 0) ≤ x2 then (some (-1 : Int32)) else ck x2 121 <| if ¬ (u.2 13 x2.toNatClampNeg) = x1 then (fcA_pointOf_2 u n x1 (x2 + (1 : Int32))) else (fcA_isHoax u x2).bind fun v1 => if ¬ v1 = 0 then (fcA_pointOf_2 u n x1 (x2 + (1 : Int32))) else ck x2 121 <| if (u.2 9 x2.toNatClampNeg) = (-1 : Int32) then (fcA_pointOf_2 u n x1 (x2 + (1 : Int32))) else ck x2 121 <| some (u.2 9 x2.toNatClampNeg)) := rfl
def fcA_latestTimeOf_7 (u : g_S) : Nat → Int32 → Int32 → Option (Int32)
  | 0, _, _ => none
  | n + 1, x1, x2 => if x2 < 0 then (some (-1 : Int32)) else ck x2 121 <| if ¬ (u.2 13 x2.toNatClampNeg) = x1 then (fcA_latestTimeOf_7 u n x1 (x2 + (-1 : Int32))) else ck x2 121 <| some (u.2 12 x2.toNatClampNeg)
def fcA_latestTimeOf (u : g_S) (p1 : Int32) : Option (Int32) := gl ((u.1 0) - (1 : Int32)) fun w1 => fcA_latestTimeOf_7 u 200 p1 w1
theorem fcA_latestTimeOf_7_s (u : g_S) (n : Nat) (x1 : Int32) (x2 : Int32) : fcA_latestTimeOf_7 u (n + 1) x1 x2 = (if x2 < 0 then (some (-1 : Int32)) else ck x2 121 <| if ¬ (u.2 13 x2.toNatClampNeg) = x1 then (fcA_latestTimeOf_7 u n x1 (x2 + (-1 : Int32))) else ck x2 121 <| some (u.2 12 x2.toNatClampNeg)) := rfl
def fcJ_eventAt_28 (u : g_S) (x1 : Int32) (x2 : Int32) (y0 : Int32) : Option (Nat × Int32) := (fcJ_needKnown y0).bind fun v2 => if v2 = 0 then (if x2 = (0 : Int32) then (ck x1 60 <| some (0, (u.2 17 x1.toNatClampNeg))) else if x2 = (1 : Int32) then ((fcA_countIn u x1).bind fun v3 => some (0, v3)) else if x2 = (2 : Int32) then (ck x1 60 <| some (0, (u.2 18 x1.toNatClampNeg))) else if x2 = (3 : Int32) then ((fcA_weighEvent u x1).bind fun v4 => some (0, v4)) else if x2 = (4 : Int32) then ((fcA_pointOf u x1).bind fun v5 => some (0, v5)) else if x2 = (5 : Int32) then (ck x1 60 <| some (0, (u.2 19 x1.toNatClampNeg))) else (fcA_latestTimeOf u x1).bind fun v6 => some (0, v6)) else some (v2, (0 : Int32))
def fcJ_eventAt (u : g_S) (p1 : Int32) (p2 : Int32) : Option (Nat × Int32) := (fcJ_isBelow p1 (u.1 1)).bind fun v1 => if v1 = 0 then (fcJ_eventAt_28 u p1 p2 (0 : Int32)) else (fcJ_isBelow p2 (7 : Int32)).bind fun v7 => if v7 = 0 then (fcJ_eventAt_28 u p1 p2 (0 : Int32)) else fcJ_eventAt_28 u p1 p2 (1 : Int32)
def fcA_memberOf_5 (u : g_S) : Nat → Int32 → Int32 → Int32 → Int32 → Option (Int32)
  | 0, _, _, _, _ => none
  | n + 1, x1, x2, x3, x4 => if (u.1 0) ≤ x4 then (some (-1 : Int32)) else ck x4 121 <| if ¬ (u.2 13 x4.toNatClampNeg) = x1 then (fcA_memberOf_5 u n x1 x2 x3 (x4 + (1 : Int32))) else if ¬ x3 = x2 then (fcA_memberOf_5 u n x1 x2 (x3 + (1 : Int32)) (x4 + (1 : Int32))) else some x4
def fcA_memberOf (u : g_S) (p1 : Int32) (p2 : Int32) : Option (Int32) := fcA_memberOf_5 u 200 p1 p2 (0 : Int32) (0 : Int32)
theorem fcA_memberOf_5_s (u : g_S) (n : Nat) (x1 : Int32) (x2 : Int32) (x3 : Int32) (x4 : Int32) : fcA_memberOf_5 u (n + 1) x1 x2 x3 x4 = (if (u.1 0) ≤ x4 then (some (-1 : Int32)) else ck x4 121 <| if ¬ (u.2 13 x4.toNatClampNeg) = x1 then (fcA_memberOf_5 u n x1 x2 x3 (x4 + (1 : Int32))) else if ¬ x3 = x2 then (fcA_memberOf_5 u n x1 x2 (x3 + (1 : Int32)) (x4 + (1 : Int32))) else some x4) := rfl
def fcJ_member (u : g_S) (p1 : Int32) (p2 : Int32) : Option (Nat × Int32) := (fcJ_isBelow p1 (u.1 1)).bind fun v1 => (fcJ_needKnown v1).bind fun v2 => if v2 = 0 then ((fcA_memberOf u p1 p2).bind fun v3 => if v3 = (-1 : Int32) then ((fcJ_needRange (0 : Int32)).bind fun v4 => if v4 = 0 then (some (0, v3)) else some (v4, (0 : Int32))) else (fcJ_needRange (1 : Int32)).bind fun v5 => if v5 = 0 then (some (0, v3)) else some (v5, (0 : Int32))) else some (v2, (0 : Int32))
def fcE_countOpen_4 (u : g_S) : Nat → Int32 → Int32 → Option (Int32)
  | 0, _, _ => none
  | n + 1, x1, x2 => if (u.1 1) ≤ x2 then (some x1) else ck x2 60 <| if ¬ (u.2 17 x2.toNatClampNeg) = 0 then (fcE_countOpen_4 u n x1 (x2 + (1 : Int32))) else fcE_countOpen_4 u n (x1 + (1 : Int32)) (x2 + (1 : Int32))
def fcE_countOpen (u : g_S)  : Option (Int32) := fcE_countOpen_4 u 200 (0 : Int32) (0 : Int32)
theorem fcE_countOpen_4_s (u : g_S) (n : Nat) (x1 : Int32) (x2 : Int32) : fcE_countOpen_4 u (n + 1) x1 x2 = (if (u.1 1) ≤ x2 then (some x1) else ck x2 60 <| if ¬ (u.2 17 x2.toNatClampNeg) = 0 then (fcE_countOpen_4 u n x1 (x2 + (1 : Int32))) else fcE_countOpen_4 u n (x1 + (1 : Int32)) (x2 + (1 : Int32))) := rfl
def fcA_countHoaxes_4 (u : g_S) : Nat → Int32 → Int32 → Option (Int32)
  | 0, _, _ => none
  | n + 1, x1, x2 => if (u.1 0) ≤ x2 then (some x1) else (fcA_isHoax u x2).bind fun v1 => if v1 = 0 then (fcA_countHoaxes_4 u n x1 (x2 + (1 : Int32))) else fcA_countHoaxes_4 u n (x1 + (1 : Int32)) (x2 + (1 : Int32))
def fcA_countHoaxes (u : g_S)  : Option (Int32) := fcA_countHoaxes_4 u 200 (0 : Int32) (0 : Int32)
theorem fcA_countHoaxes_4_s (u : g_S) (n : Nat) (x1 : Int32) (x2 : Int32) : fcA_countHoaxes_4 u (n + 1) x1 x2 = (if (u.1 0) ≤ x2 then (some x1) else (fcA_isHoax u x2).bind fun v1 => if v1 = 0 then (fcA_countHoaxes_4 u n x1 (x2 + (1 : Int32))) else fcA_countHoaxes_4 u n (x1 + (1 : Int32)) (x2 + (1 : Int32))) := rfl
def fcJ_count (u : g_S) (p1 : Int32) : Option (Nat × Int32) := (fcJ_isBelow p1 (4 : Int32)).bind fun v1 => (fcJ_needKnown v1).bind fun v2 => if v2 = 0 then (if p1 = (0 : Int32) then (some (0, (u.1 0))) else if p1 = (1 : Int32) then (some (0, (u.1 1))) else if p1 = (2 : Int32) then ((fcE_countOpen u ).bind fun v3 => some (0, v3)) else (fcA_countHoaxes u ).bind fun v4 => some (0, v4)) else some (v2, (0 : Int32))
def fm_thrown (u : g_S)  : Option (Int32) := some (u.1 0)
def fm_throwing_26 (u : g_S) (y1 : Int32) : Option (Int32 × g_S) := gl (g_sI u 0 y1) fun u1 => if (u1.1 0) ≤ 0 then (some ((0 : Int32), u1)) else some ((1 : Int32), u1)
def fm_throwing (u : g_S) (p1 : Int32) (p2 : Int32) (p3 : Int32) : Option (Int32 × g_S) := if p1 = 0 then (if p2 = 0 then (if p3 = 0 then (fm_throwing_26 u (0 : Int32)) else fm_throwing_26 u (3 : Int32)) else fm_throwing_26 u (2 : Int32)) else fm_throwing_26 u (1 : Int32)
def fm_in (p0 : Int32) (p1 : Int32) (p2 : Int32) : Option (Int32) := if p0 < p1 then (some (0 : Int32)) else if p2 < p0 then (some (0 : Int32)) else some (1 : Int32)
def fm_isKind (p0 : Int32) : Option (Int32) := (fm_in p0 (0 : Int32) (7 : Int32)).bind fun v1 => if v1 = 0 ∨ v1 = 1 then some v1 else none
def fm_isRoad (p0 : Int32) : Option (Int32) := (fm_in p0 (0 : Int32) (7 : Int32)).bind fun v1 => if v1 = 0 ∨ v1 = 1 then some v1 else none
def fm_isCall (u : g_S) (p1 : Int32) : Option (Int32) := (fm_in p1 (0 : Int32) ((u.1 1) - (1 : Int32))).bind fun v1 => if v1 = 0 ∨ v1 = 1 then some v1 else none
def fm_isEvent (u : g_S) (p1 : Int32) : Option (Int32) := (fm_in p1 (0 : Int32) ((u.1 2) - (1 : Int32))).bind fun v1 => if v1 = 0 ∨ v1 = 1 then some v1 else none
def fm_isPoint (p0 : Int32) : Option (Int32) := (fm_in p0 (0 : Int32) (99999999 : Int32)).bind fun v1 => if v1 = 0 ∨ v1 = 1 then some v1 else none
def fm_rule_63 (u : g_S) (x1 : Int32) (x2 : Int32) (x3 : Int32) (x4 : Int32) (x5 : Int32) (x6 : Int32) (y1 : Int32) : Option (g_S) := (fm_throwing u y1 x6 (0 : Int32)).bind fun v3 => if v3.1 = 0 then (ck x1 8 <| gl (g_sA v3.2 0 x1 x2) fun u4 => ck x1 8 <| gl (g_sA u4 1 x1 x3) fun u5 => ck x1 8 <| gl (g_sA u5 2 x1 x4) fun u6 => ck x1 8 <| gl (g_sA u6 3 x1 x5) fun u7 => some u7) else some v3.2
def fm_rule_48 (u : g_S) (x1 : Int32) (x2 : Int32) (x3 : Int32) (x4 : Int32) (x5 : Int32) (y0 : Int32) : Option (g_S) := (fm_isKind x1).bind fun v2 => if ¬ v2 = 0 then (fm_rule_63 u x1 x2 x3 x4 x5 y0 (0 : Int32)) else fm_rule_63 u x1 x2 x3 x4 x5 y0 (1 : Int32)
def fm_rule (u : g_S) (p1 : Int32) (p2 : Int32) (p3 : Int32) (p4 : Int32) (p5 : Int32) : Option (g_S) := (fm_in p2 (0 : Int32) (20000 : Int32)).bind fun v1 => if v1 = 0 then (fm_rule_48 u p1 p2 p3 p4 p5 (1 : Int32)) else (fm_in p3 (0 : Int32) (100000 : Int32)).bind fun v8 => if v8 = 0 then (fm_rule_48 u p1 p2 p3 p4 p5 (1 : Int32)) else (fm_in p4 (0 : Int32) (100 : Int32)).bind fun v9 => if v9 = 0 then (fm_rule_48 u p1 p2 p3 p4 p5 (1 : Int32)) else (fm_in p5 (1 : Int32) (100 : Int32)).bind fun v10 => if ¬ v10 = 0 then (fm_rule_48 u p1 p2 p3 p4 p5 (0 : Int32)) else fm_rule_48 u p1 p2 p3 p4 p5 (1 : Int32)
def fm_weight_38 (u : g_S) (x1 : Int32) (x2 : Int32) (x3 : Int32) (y1 : Int32) (y2 : Int32) : Option (g_S) := (fm_throwing u y1 y2 (0 : Int32)).bind fun v3 => if v3.1 = 0 then (ck (((32 : Int32) * x1) + x2) 256 <| gl (g_sA v3.2 4 (((32 : Int32) * x1) + x2) x3) fun u4 => some u4) else some v3.2
def fm_weight_23 (u : g_S) (x1 : Int32) (x2 : Int32) (x3 : Int32) (y1 : Int32) : Option (g_S) := (fm_in x3 (0 : Int32) (100 : Int32)).bind fun v2 => if ¬ v2 = 0 then (fm_weight_38 u x1 x2 x3 y1 (0 : Int32)) else fm_weight_38 u x1 x2 x3 y1 (1 : Int32)
def fm_weight (u : g_S) (p1 : Int32) (p2 : Int32) (p3 : Int32) : Option (g_S) := (fm_isKind p1).bind fun v1 => if v1 = 0 then (fm_weight_23 u p1 p2 p3 (1 : Int32)) else (fm_in p2 (0 : Int32) (31 : Int32)).bind fun v5 => if ¬ v5 = 0 then (fm_weight_23 u p1 p2 p3 (0 : Int32)) else fm_weight_23 u p1 p2 p3 (1 : Int32)
def fm_point_59 (u : g_S) (x1 : Int32) (x2 : Int32) (y1 : Int32) (y2 : Int32) (y3 : Int32) : Option (Int32 × g_S) := (fm_throwing u y1 y2 y3).bind fun v4 => if v4.1 = 0 then (ck x1 8 <| ck (((8 : Int32) * x1) + (v4.2.2 5 x1.toNatClampNeg)) 64 <| gl (g_sA v4.2 6 (((8 : Int32) * x1) + (v4.2.2 5 x1.toNatClampNeg)) x2) fun u5 => ck x1 8 <| ck x1 8 <| gl (g_sA u5 5 x1 ((u5.2 5 x1.toNatClampNeg) + (1 : Int32))) fun u6 => ck x1 8 <| some ((u6.2 5 x1.toNatClampNeg), u6)) else some ((0 : Int32), v4.2)
def fm_point_48 (u : g_S) (x1 : Int32) (x2 : Int32) (y1 : Int32) (y2 : Int32) (y4 : Int32) : Option (Int32 × g_S) := ck y4 8 <| if ¬ (u.2 5 y4.toNatClampNeg) = (8 : Int32) then (fm_point_59 u x1 x2 y1 y2 (0 : Int32)) else fm_point_59 u x1 x2 y1 y2 (1 : Int32)
def fm_point_25 (u : g_S) (x1 : Int32) (x2 : Int32) (y1 : Int32) (y2 : Int32) : Option (Int32 × g_S) := (fm_isRoad x1).bind fun v3 => if v3 = 0 then (fm_point_59 u x1 x2 y1 y2 (0 : Int32)) else (fm_isRoad x1).bind fun v7 => if v7 = 0 then (fm_point_48 u x1 x2 y1 y2 (0 : Int32)) else fm_point_48 u x1 x2 y1 y2 x1
def fm_point_13 (u : g_S) (x1 : Int32) (x2 : Int32) (y1 : Int32) : Option (Int32 × g_S) := (fm_isPoint x2).bind fun v2 => if ¬ v2 = 0 then (fm_point_25 u x1 x2 y1 (0 : Int32)) else fm_point_25 u x1 x2 y1 (1 : Int32)
def fm_point (u : g_S) (p1 : Int32) (p2 : Int32) : Option (Int32 × g_S) := (fm_isRoad p1).bind fun v1 => if ¬ v1 = 0 then (fm_point_13 u p1 p2 (0 : Int32)) else fm_point_13 u p1 p2 (1 : Int32)
def fm_squareOf (p0 : Int32) (p1 : Int32) : Option (Int64) := gl (Int32.toInt64 ((p0 / (10000 : Int32)) - (p1 / (10000 : Int32)))) fun w1 => gl (Int32.toInt64 ((p0 - p0 / (10000 : Int32) * (10000 : Int32)) - (p1 - p1 / (10000 : Int32) * (10000 : Int32)))) fun w2 => some ((w1 * w1) + (w2 * w2))
def fm_sum_5 (u : g_S) : Nat → Int32 → Int32 → Int32 → Int32 → Option (Int32)
  | 0, _, _, _, _ => none
  | n + 1, x1, x2, x3, x4 => if (32 : Int32) ≤ x4 then (some x3) else if ¬ ((x1 >>> (x4 &&& 31)) &&& (1 : Int32)) = (1 : Int32) then (gl (x3 + (0 : Int32)) fun w1 => fm_sum_5 u n x1 x2 w1 (x4 + (1 : Int32))) else ck (((32 : Int32) * x2) + x4) 256 <| gl (x3 + (u.2 4 (((32 : Int32) * x2) + x4).toNatClampNeg)) fun w2 => fm_sum_5 u n x1 x2 w2 (x4 + (1 : Int32))
def fm_sum (u : g_S) (p1 : Int32) (p2 : Int32) : Option (Int32) := fm_sum_5 u 200 p1 p2 (0 : Int32) (0 : Int32)
theorem fm_sum_5_s (u : g_S) (n : Nat) (x1 : Int32) (x2 : Int32) (x3 : Int32) (x4 : Int32) : fm_sum_5 u (n + 1) x1 x2 x3 x4 = (if (32 : Int32) ≤ x4 then (some x3) else if ¬ ((x1 >>> (x4 &&& 31)) &&& (1 : Int32)) = (1 : Int32) then (gl (x3 + (0 : Int32)) fun w1 => fm_sum_5 u n x1 x2 w1 (x4 + (1 : Int32))) else ck (((32 : Int32) * x2) + x4) 256 <| gl (x3 + (u.2 4 (((32 : Int32) * x2) + x4).toNatClampNeg)) fun w2 => fm_sum_5 u n x1 x2 w2 (x4 + (1 : Int32))) := rfl
def fm_isEnough (u : g_S) (p1 : Int32) (p2 : Int32) (p3 : Int32) : Option (Int32) := (fm_sum u (p1 &&& p2) p3).bind fun v1 => ck p3 8 <| ck p3 8 <| (fm_sum u (p1 ||| p2) p3).bind fun v2 => if (v1 * (u.2 3 p3.toNatClampNeg)) < ((u.2 2 p3.toNatClampNeg) * v2) then (some (0 : Int32)) else some (1 : Int32)
def fm_meets_157 (u : g_S) (x1 : Int32) (x2 : Int32) (x4 : Int32) (x6 : Int32) : Option (Int32) := if x6 = 0 then (some (0 : Int32)) else ck x1 120 <| (fm_isEnough u (u.2 10 x1.toNatClampNeg) x4 x2).bind fun v2 => if v2 = 0 then (some (0 : Int32)) else some (2 : Int32)
def fm_meets_144 (u : g_S) (y0 : Int32) : Option (Int32) := if y0 = 0 then (some (0 : Int32)) else some (1 : Int32)
def fm_meets_46 (u : g_S) (x1 : Int32) (x2 : Int32) (x3 : Int32) (x4 : Int32) (y0 : Int32) : Option (Int32) := ck x1 120 <| if (u.2 9 x1.toNatClampNeg) < 0 then (fm_meets_157 u x1 x2 x4 y0) else if x3 < 0 then (fm_meets_157 u x1 x2 x4 y0) else ck x1 120 <| (fm_squareOf (u.2 9 x1.toNatClampNeg) x3).bind fun v3 => ck x2 8 <| ck x2 8 <| gl ((Int32.toInt64 (u.2 0 x2.toNatClampNeg)) * (Int32.toInt64 (u.2 0 x2.toNatClampNeg))) fun w4 => if y0 = 0 then (if 0 < (lg_cmp ((4 : Int64) * v3) w4) then (fm_meets_144 u (0 : Int32)) else fm_meets_144 u (1 : Int32)) else if 0 < (lg_cmp v3 w4) then (fm_meets_144 u (0 : Int32)) else ck x1 120 <| (fm_isEnough u (u.2 10 x1.toNatClampNeg) x4 x2).bind fun v5 => if v5 = 0 then (fm_meets_144 u (0 : Int32)) else fm_meets_144 u (1 : Int32)
def fm_meets (u : g_S) (p1 : Int32) (p2 : Int32) (p3 : Int32) (p4 : Int32) (p5 : Int32) : Option (Int32) := ck p1 120 <| ck p2 8 <| if (lg_cmp ((Int32.toInt64 p5) - (Int32.toInt64 (u.2 11 p1.toNatClampNeg))) (Int32.toInt64 (u.2 1 p2.toNatClampNeg))) ≤ 0 then (ck p1 120 <| (fm_sum u ((u.2 10 p1.toNatClampNeg) ||| p4) p2).bind fun v1 => if v1 ≤ 0 then (fm_meets_46 u p1 p2 p3 p4 (0 : Int32)) else fm_meets_46 u p1 p2 p3 p4 (1 : Int32)) else some (0 : Int32)
def fm_isOpen (u : g_S) (p1 : Int32) : Option (Int32) := ck p1 120 <| ck (u.2 12 p1.toNatClampNeg) 60 <| if ¬ (u.2 16 (u.2 12 p1.toNatClampNeg).toNatClampNeg) = 0 then (some (0 : Int32)) else some (1 : Int32)
def fm_isHoax (u : g_S) (p1 : Int32) : Option (Int32) := ck p1 120 <| if ((u.2 14 p1.toNatClampNeg) &&& (4 : Int32)) = 0 then (some (0 : Int32)) else some (1 : Int32)
def fm_firstOf_2 (u : g_S) : Nat → Int32 → Int32 → Option (Int32)
  | 0, _, _ => none
  | n + 1, x1, x2 => if (u.1 1) ≤ x2 then (some (-1 : Int32)) else ck x2 120 <| if ¬ (u.2 12 x2.toNatClampNeg) = x1 then (fm_firstOf_2 u n x1 (x2 + (1 : Int32))) else ck x2 120 <| if 0 ≤ (u.2 13 x2.toNatClampNeg) then (fm_firstOf_2 u n x1 (x2 + (1 : Int32))) else some x2
def fm_firstOf (u : g_S) (p1 : Int32) : Option (Int32) := fm_firstOf_2 u 200 p1 (0 : Int32)
theorem fm_firstOf_2_s (u : g_S) (n : Nat) (x1 : Int32) (x2 : Int32) : fm_firstOf_2 u (n + 1) x1 x2 = (if (u.1 1) ≤ x2 then (some (-1 : Int32)) else ck x2 120 <| if ¬ (u.2 12 x2.toNatClampNeg) = x1 then (fm_firstOf_2 u n x1 (x2 + (1 : Int32))) else ck x2 120 <| if 0 ≤ (u.2 13 x2.toNatClampNeg) then (fm_firstOf_2 u n x1 (x2 + (1 : Int32))) else some x2) := rfl
def fm_isBeside (p0 : Int32) (p1 : Int32) (p2 : Int32) : Option (Int32) := gl (Int32.toInt64 ((p0 / (10000 : Int32)) - (p1 / (10000 : Int32)))) fun w1 => gl (Int32.toInt64 ((p0 - p0 / (10000 : Int32) * (10000 : Int32)) - (p1 - p1 / (10000 : Int32) * (10000 : Int32)))) fun w2 => gl (Int32.toInt64 ((p2 / (10000 : Int32)) - (p1 / (10000 : Int32)))) fun w3 => gl (Int32.toInt64 ((p2 - p2 / (10000 : Int32) * (10000 : Int32)) - (p1 - p1 / (10000 : Int32) * (10000 : Int32)))) fun w4 => gl ((w1 * w3) + (w2 * w4)) fun w5 => gl ((w3 * w3) + (w4 * w4)) fun w6 => if 0 < (lg_cmp w5 (0 : Int64)) then (if (lg_cmp w5 w6) < 0 then (gl ((w1 * w4) - (w2 * w3)) fun w7 => if 0 < (lg_cmp (w7 * w7) ((2500 : Int64) * w6)) then (some (0 : Int32)) else some (1 : Int32)) else (fm_squareOf p0 p2).bind fun v8 => if 0 < (lg_cmp v8 (2500 : Int64)) then (some (0 : Int32)) else some (1 : Int32)) else if 0 < (lg_cmp ((w1 * w1) + (w2 * w2)) (2500 : Int64)) then (some (0 : Int32)) else some (1 : Int32)
def fm_isOn_77 (u : g_S) : Nat → Int32 → Int32 → Int32 → Int32 → Int32 → Option (Int32)
  | 0, _, _, _, _, _ => none
  | n + 1, x1, x2, x5, x6, x7 => if x5 ≤ x7 then (if x6 = 0 ∨ x6 = 1 then some x6 else none) else if ¬ x6 = 0 then (fm_isOn_77 u n x1 x2 x5 (1 : Int32) (x7 + (1 : Int32))) else ck x1 60 <| ck (((8 : Int32) * (u.2 17 x1.toNatClampNeg)) + x7) 64 <| ck x1 60 <| ck ((((8 : Int32) * (u.2 17 x1.toNatClampNeg)) + x7) + (1 : Int32)) 64 <| (fm_isBeside x2 (u.2 6 (((8 : Int32) * (u.2 17 x1.toNatClampNeg)) + x7).toNatClampNeg) (u.2 6 ((((8 : Int32) * (u.2 17 x1.toNatClampNeg)) + x7) + (1 : Int32)).toNatClampNeg)).bind fun v2 => if v2 = 0 then (fm_isOn_77 u n x1 x2 x5 (0 : Int32) (x7 + (1 : Int32))) else fm_isOn_77 u n x1 x2 x5 (1 : Int32) (x7 + (1 : Int32))
def fm_isOn_50 (u : g_S) (x1 : Int32) (x2 : Int32) (y0 : Int32) : Option (Int32) := ck x1 60 <| ck x1 60 <| gl (((u.2 18 x1.toNatClampNeg) + (u.2 19 x1.toNatClampNeg)) - y0) fun w1 => fm_isOn_77 u 200 x1 x2 w1 (0 : Int32) y0
def fm_isOn (u : g_S) (p1 : Int32) (p2 : Int32) (p3 : Int32) : Option (Int32) := if 0 ≤ p2 then (ck p1 60 <| ck p1 60 <| if (u.2 19 p1.toNatClampNeg) ≤ (u.2 18 p1.toNatClampNeg) then (ck p1 60 <| fm_isOn_50 u p1 p2 (u.2 19 p1.toNatClampNeg)) else ck p1 60 <| fm_isOn_50 u p1 p2 (u.2 18 p1.toNatClampNeg)) else ck p1 60 <| if ¬ p3 = (u.2 17 p1.toNatClampNeg) then (some (0 : Int32)) else some (1 : Int32)
theorem fm_isOn_77_s (u : g_S) (n : Nat) (x1 : Int32) (x2 : Int32) (x5 : Int32) (x6 : Int32) (x7 : Int32) : fm_isOn_77 u (n + 1) x1 x2 x5 x6 x7 = (if x5 ≤ x7 then (if x6 = 0 ∨ x6 = 1 then some x6 else none) else if ¬ x6 = 0 then (fm_isOn_77 u n x1 x2 x5 (1 : Int32) (x7 + (1 : Int32))) else ck x1 60 <| ck (((8 : Int32) * (u.2 17 x1.toNatClampNeg)) + x7) 64 <| ck x1 60 <| ck ((((8 : Int32) * (u.2 17 x1.toNatClampNeg)) + x7) + (1 : Int32)) 64 <| (fm_isBeside x2 (u.2 6 (((8 : Int32) * (u.2 17 x1.toNatClampNeg)) + x7).toNatClampNeg) (u.2 6 ((((8 : Int32) * (u.2 17 x1.toNatClampNeg)) + x7) + (1 : Int32)).toNatClampNeg)).bind fun v2 => if v2 = 0 then (fm_isOn_77 u n x1 x2 x5 (0 : Int32) (x7 + (1 : Int32))) else fm_isOn_77 u n x1 x2 x5 (1 : Int32) (x7 + (1 : Int32))) := rfl
def fm_again_6 (u : g_S) : Nat → Int32 → Int32 → Int32 → Int32 → Int32 → Option (Int32)
  | 0, _, _, _, _, _ => none
  | n + 1, x1, x2, x3, x4, x5 => if (u.1 1) ≤ x5 then (if x4 < 0 then (some (-1 : Int32)) else ck x4 120 <| ck x2 8 <| if 0 < (lg_cmp ((Int32.toInt64 x3) - (Int32.toInt64 (u.2 11 x4.toNatClampNeg))) (Int32.toInt64 (u.2 1 x2.toNatClampNeg))) then (some (-1 : Int32)) else some x4) else ck x5 120 <| if ¬ (u.2 7 x5.toNatClampNeg) = x1 then (fm_again_6 u n x1 x2 x3 x4 (x5 + (1 : Int32))) else (fm_isOpen u x5).bind fun v1 => if v1 = 0 then (fm_again_6 u n x1 x2 x3 x4 (x5 + (1 : Int32))) else (fm_isHoax u x5).bind fun v2 => if ¬ v2 = 0 then (fm_again_6 u n x1 x2 x3 x4 (x5 + (1 : Int32))) else fm_again_6 u n x1 x2 x3 x5 (x5 + (1 : Int32))
def fm_again (u : g_S) (p1 : Int32) (p2 : Int32) (p3 : Int32) : Option (Int32) := fm_again_6 u 200 p1 p2 p3 (-1 : Int32) (0 : Int32)
theorem fm_again_6_s (u : g_S) (n : Nat) (x1 : Int32) (x2 : Int32) (x3 : Int32) (x4 : Int32) (x5 : Int32) : fm_again_6 u (n + 1) x1 x2 x3 x4 x5 = (if (u.1 1) ≤ x5 then (if x4 < 0 then (some (-1 : Int32)) else ck x4 120 <| ck x2 8 <| if 0 < (lg_cmp ((Int32.toInt64 x3) - (Int32.toInt64 (u.2 11 x4.toNatClampNeg))) (Int32.toInt64 (u.2 1 x2.toNatClampNeg))) then (some (-1 : Int32)) else some x4) else ck x5 120 <| if ¬ (u.2 7 x5.toNatClampNeg) = x1 then (fm_again_6 u n x1 x2 x3 x4 (x5 + (1 : Int32))) else (fm_isOpen u x5).bind fun v1 => if v1 = 0 then (fm_again_6 u n x1 x2 x3 x4 (x5 + (1 : Int32))) else (fm_isHoax u x5).bind fun v2 => if ¬ v2 = 0 then (fm_again_6 u n x1 x2 x3 x4 (x5 + (1 : Int32))) else fm_again_6 u n x1 x2 x3 x5 (x5 + (1 : Int32))) := rfl
def fm_onStretch_3 (u : g_S) : Nat → Int32 → Int32 → Int32 → Int32 → Option (Int32)
  | 0, _, _, _, _ => none
  | n + 1, x1, x2, x3, x4 => if (u.1 2) ≤ x4 then (some (-1 : Int32)) else ck x4 60 <| if ¬ (u.2 16 x4.toNatClampNeg) = 0 then (if (0 : Int32) = 0 then (fm_onStretch_3 u n x1 x2 x3 (x4 + (1 : Int32))) else (fm_isOn u x4 x2 x3).bind fun v1 => if v1 = 0 then (fm_onStretch_3 u n x1 x2 x3 (x4 + (1 : Int32))) else (fm_firstOf u x4).bind fun v2 => some v2) else ck x4 60 <| if (u.2 17 x4.toNatClampNeg) < 0 then (if (0 : Int32) = 0 then (fm_onStretch_3 u n x1 x2 x3 (x4 + (1 : Int32))) else (fm_isOn u x4 x2 x3).bind fun v3 => if v3 = 0 then (fm_onStretch_3 u n x1 x2 x3 (x4 + (1 : Int32))) else (fm_firstOf u x4).bind fun v4 => some v4) else (fm_firstOf u x4).bind fun v5 => ck v5 120 <| if ¬ (u.2 8 v5.toNatClampNeg) = x1 then (if (0 : Int32) = 0 then (fm_onStretch_3 u n x1 x2 x3 (x4 + (1 : Int32))) else (fm_isOn u x4 x2 x3).bind fun v6 => if v6 = 0 then (fm_onStretch_3 u n x1 x2 x3 (x4 + (1 : Int32))) else (fm_firstOf u x4).bind fun v7 => some v7) else if (1 : Int32) = 0 then (fm_onStretch_3 u n x1 x2 x3 (x4 + (1 : Int32))) else (fm_isOn u x4 x2 x3).bind fun v8 => if v8 = 0 then (fm_onStretch_3 u n x1 x2 x3 (x4 + (1 : Int32))) else (fm_firstOf u x4).bind fun v9 => some v9
def fm_onStretch (u : g_S) (p1 : Int32) (p2 : Int32) (p3 : Int32) : Option (Int32) := fm_onStretch_3 u 200 p1 p2 p3 (0 : Int32)
theorem fm_onStretch_3_s (u : g_S) (n : Nat) (x1 : Int32) (x2 : Int32) (x3 : Int32) (x4 : Int32) : fm_onStretch_3 u (n + 1) x1 x2 x3 x4 = (if (u.1 2) ≤ x4 then (some (-1 : Int32)) else ck x4 60 <| if ¬ (u.2 16 x4.toNatClampNeg) = 0 then (if (0 : Int32) = 0 then (fm_onStretch_3 u n x1 x2 x3 (x4 + (1 : Int32))) else (fm_isOn u x4 x2 x3).bind fun v1 => if v1 = 0 then (fm_onStretch_3 u n x1 x2 x3 (x4 + (1 : Int32))) else (fm_firstOf u x4).bind fun v2 => some v2) else ck x4 60 <| if (u.2 17 x4.toNatClampNeg) < 0 then (if (0 : Int32) = 0 then (fm_onStretch_3 u n x1 x2 x3 (x4 + (1 : Int32))) else (fm_isOn u x4 x2 x3).bind fun v3 => if v3 = 0 then (fm_onStretch_3 u n x1 x2 x3 (x4 + (1 : Int32))) else (fm_firstOf u x4).bind fun v4 => some v4) else (fm_firstOf u x4).bind fun v5 => ck v5 120 <| if ¬ (u.2 8 v5.toNatClampNeg) = x1 then (if (0 : Int32) = 0 then (fm_onStretch_3 u n x1 x2 x3 (x4 + (1 : Int32))) else (fm_isOn u x4 x2 x3).bind fun v6 => if v6 = 0 then (fm_onStretch_3 u n x1 x2 x3 (x4 + (1 : Int32))) else (fm_firstOf u x4).bind fun v7 => some v7) else if (1 : Int32) = 0 then (fm_onStretch_3 u n x1 x2 x3 (x4 + (1 : Int32))) else (fm_isOn u x4 x2 x3).bind fun v8 => if v8 = 0 then (fm_onStretch_3 u n x1 x2 x3 (x4 + (1 : Int32))) else (fm_firstOf u x4).bind fun v9 => some v9) := rfl
def fm_isBetter_61 (u : g_S) (x1 : Int32) (x2 : Int32) (x3 : Int32) (x5 : Int32) : Option (Int32) := ck x1 120 <| (fm_sum u ((u.2 10 x1.toNatClampNeg) &&& x5) x3).bind fun v1 => ck x2 120 <| (fm_sum u ((u.2 10 x2.toNatClampNeg) ||| x5) x3).bind fun v2 => ck x2 120 <| (fm_sum u ((u.2 10 x2.toNatClampNeg) &&& x5) x3).bind fun v3 => ck x1 120 <| (fm_sum u ((u.2 10 x1.toNatClampNeg) ||| x5) x3).bind fun v4 => if (v1 * v2) ≤ (v3 * v4) then (some (0 : Int32)) else some (1 : Int32)
def fm_isBetter (u : g_S) (p1 : Int32) (p2 : Int32) (p3 : Int32) (p4 : Int32) (p5 : Int32) : Option (Int32) := if 0 ≤ p2 then (if p4 < 0 then (fm_isBetter_61 u p1 p2 p3 p5) else ck p1 120 <| if (u.2 9 p1.toNatClampNeg) < 0 then (fm_isBetter_61 u p1 p2 p3 p5) else ck p2 120 <| if (u.2 9 p2.toNatClampNeg) < 0 then (fm_isBetter_61 u p1 p2 p3 p5) else ck p1 120 <| (fm_squareOf (u.2 9 p1.toNatClampNeg) p4).bind fun v5 => ck p2 120 <| (fm_squareOf (u.2 9 p2.toNatClampNeg) p4).bind fun v6 => if 0 ≤ (lg_cmp v5 v6) then (some (0 : Int32)) else some (1 : Int32)) else some (1 : Int32)
def fm_agreeing_6 (u : g_S) : Nat → Int32 → Int32 → Int32 → Int32 → Int32 → Int32 → Int32 → Option (Int32)
  | 0, _, _, _, _, _, _, _ => none
  | n + 1, x1, x2, x3, x4, x5, x6, x7 => if (u.1 1) ≤ x7 then (some x6) else ck x7 120 <| if ¬ (u.2 8 x7.toNatClampNeg) = x2 then (if (0 : Int32) = 0 then (fm_agreeing_6 u n x1 x2 x3 x4 x5 x6 (x7 + (1 : Int32))) else if ¬ x1 = (2 : Int32) then ((fm_isBetter u x7 x6 x2 x3 x4).bind fun v1 => if v1 = 0 then (fm_agreeing_6 u n x1 x2 x3 x4 x5 x6 (x7 + (1 : Int32))) else fm_agreeing_6 u n x1 x2 x3 x4 x5 x7 (x7 + (1 : Int32))) else (fm_isBetter u x7 x6 x2 (-1 : Int32) x4).bind fun v2 => if v2 = 0 then (fm_agreeing_6 u n x1 x2 x3 x4 x5 x6 (x7 + (1 : Int32))) else fm_agreeing_6 u n x1 x2 x3 x4 x5 x7 (x7 + (1 : Int32))) else (fm_isOpen u x7).bind fun v3 => if v3 = 0 then (if (0 : Int32) = 0 then (fm_agreeing_6 u n x1 x2 x3 x4 x5 x6 (x7 + (1 : Int32))) else if ¬ x1 = (2 : Int32) then ((fm_isBetter u x7 x6 x2 x3 x4).bind fun v4 => if v4 = 0 then (fm_agreeing_6 u n x1 x2 x3 x4 x5 x6 (x7 + (1 : Int32))) else fm_agreeing_6 u n x1 x2 x3 x4 x5 x7 (x7 + (1 : Int32))) else (fm_isBetter u x7 x6 x2 (-1 : Int32) x4).bind fun v5 => if v5 = 0 then (fm_agreeing_6 u n x1 x2 x3 x4 x5 x6 (x7 + (1 : Int32))) else fm_agreeing_6 u n x1 x2 x3 x4 x5 x7 (x7 + (1 : Int32))) else (fm_isHoax u x7).bind fun v6 => if ¬ v6 = 0 then (if (0 : Int32) = 0 then (fm_agreeing_6 u n x1 x2 x3 x4 x5 x6 (x7 + (1 : Int32))) else if ¬ x1 = (2 : Int32) then ((fm_isBetter u x7 x6 x2 x3 x4).bind fun v7 => if v7 = 0 then (fm_agreeing_6 u n x1 x2 x3 x4 x5 x6 (x7 + (1 : Int32))) else fm_agreeing_6 u n x1 x2 x3 x4 x5 x7 (x7 + (1 : Int32))) else (fm_isBetter u x7 x6 x2 (-1 : Int32) x4).bind fun v8 => if v8 = 0 then (fm_agreeing_6 u n x1 x2 x3 x4 x5 x6 (x7 + (1 : Int32))) else fm_agreeing_6 u n x1 x2 x3 x4 x5 x7 (x7 + (1 : Int32))) else (fm_meets u x7 x2 x3 x4 x5).bind fun v9 => if ¬ v9 = x1 then (if (0 : Int32) = 0 then (fm_agreeing_6 u n x1 x2 x3 x4 x5 x6 (x7 + (1 : Int32))) else if ¬ x1 = (2 : Int32) then ((fm_isBetter u x7 x6 x2 x3 x4).bind fun v10 => if v10 = 0 then (fm_agreeing_6 u n x1 x2 x3 x4 x5 x6 (x7 + (1 : Int32))) else fm_agreeing_6 u n x1 x2 x3 x4 x5 x7 (x7 + (1 : Int32))) else (fm_isBetter u x7 x6 x2 (-1 : Int32) x4).bind fun v11 => if v11 = 0 then (fm_agreeing_6 u n x1 x2 x3 x4 x5 x6 (x7 + (1 : Int32))) else fm_agreeing_6 u n x1 x2 x3 x4 x5 x7 (x7 + (1 : Int32))) else if (1 : Int32) = 0 then (fm_agreeing_6 u n x1 x2 x3 x4 x5 x6 (x7 + (1 : Int32))) else if ¬ x1 = (2 : Int32) then ((fm_isBetter u x7 x6 x2 x3 x4).bind fun v12 => if v12 = 0 then (fm_agreeing_6 u n x1 x2 x3 x4 x5 x6 (x7 + (1 : Int32))) else fm_agreeing_6 u n x1 x2 x3 x4 x5 x7 (x7 + (1 : Int32))) else (fm_isBetter u x7 x6 x2 (-1 : Int32) x4).bind fun v13 => if v13 = 0 then (fm_agreeing_6 u n x1 x2 x3 x4 x5 x6 (x7 + (1 : Int32))) else fm_agreeing_6 u n x1 x2 x3 x4 x5 x7 (x7 + (1 : Int32))
def fm_agreeing (u : g_S) (p1 : Int32) (p2 : Int32) (p3 : Int32) (p4 : Int32) (p5 : Int32) : Option (Int32) := fm_agreeing_6 u 200 p1 p2 p3 p4 p5 (-1 : Int32) (0 : Int32)
theorem fm_agreeing_6_s (u : g_S) (n : Nat) (x1 : Int32) (x2 : Int32) (x3 : Int32) (x4 : Int32) (x5 : Int32) (x6 : Int32) (x7 : Int32) : fm_agreeing_6 u (n + 1) x1 x2 x3 x4 x5 x6 x7 = (if (u.1 1) ≤ x7 then (some x6) else ck x7 120 <| if ¬ (u.2 8 x7.toNatClampNeg) = x2 then (if (0 : Int32) = 0 then (fm_agreeing_6 u n x1 x2 x3 x4 x5 x6 (x7 + (1 : Int32))) else if ¬ x1 = (2 : Int32) then ((fm_isBetter u x7 x6 x2 x3 x4).bind fun v1 => if v1 = 0 then (fm_agreeing_6 u n x1 x2 x3 x4 x5 x6 (x7 + (1 : Int32))) else fm_agreeing_6 u n x1 x2 x3 x4 x5 x7 (x7 + (1 : Int32))) else (fm_isBetter u x7 x6 x2 (-1 : Int32) x4).bind fun v2 => if v2 = 0 then (fm_agreeing_6 u n x1 x2 x3 x4 x5 x6 (x7 + (1 : Int32))) else fm_agreeing_6 u n x1 x2 x3 x4 x5 x7 (x7 + (1 : Int32))) else (fm_isOpen u x7).bind fun v3 => if v3 = 0 then (if (0 : Int32) = 0 then (fm_agreeing_6 u n x1 x2 x3 x4 x5 x6 (x7 + (1 : Int32))) else if ¬ x1 = (2 : Int32) then ((fm_isBetter u x7 x6 x2 x3 x4).bind fun v4 => if v4 = 0 then (fm_agreeing_6 u n x1 x2 x3 x4 x5 x6 (x7 + (1 : Int32))) else fm_agreeing_6 u n x1 x2 x3 x4 x5 x7 (x7 + (1 : Int32))) else (fm_isBetter u x7 x6 x2 (-1 : Int32) x4).bind fun v5 => if v5 = 0 then (fm_agreeing_6 u n x1 x2 x3 x4 x5 x6 (x7 + (1 : Int32))) else fm_agreeing_6 u n x1 x2 x3 x4 x5 x7 (x7 + (1 : Int32))) else (fm_isHoax u x7).bind fun v6 => if ¬ v6 = 0 then (if (0 : Int32) = 0 then (fm_agreeing_6 u n x1 x2 x3 x4 x5 x6 (x7 + (1 : Int32))) else if ¬ x1 = (2 : Int32) then ((fm_isBetter u x7 x6 x2 x3 x4).bind fun v7 => if v7 = 0 then (fm_agreeing_6 u n x1 x2 x3 x4 x5 x6 (x7 + (1 : Int32))) else fm_agreeing_6 u n x1 x2 x3 x4 x5 x7 (x7 + (1 : Int32))) else (fm_isBetter u x7 x6 x2 (-1 : Int32) x4).bind fun v8 => if v8 = 0 then (fm_agreeing_6 u n x1 x2 x3 x4 x5 x6 (x7 + (1 : Int32))) else fm_agreeing_6 u n x1 x2 x3 x4 x5 x7 (x7 + (1 : Int32))) else (fm_meets u x7 x2 x3 x4 x5).bind fun v9 => if ¬ v9 = x1 then (if (0 : Int32) = 0 then (fm_agreeing_6 u n x1 x2 x3 x4 x5 x6 (x7 + (1 : Int32))) else if ¬ x1 = (2 : Int32) then ((fm_isBetter u x7 x6 x2 x3 x4).bind fun v10 => if v10 = 0 then (fm_agreeing_6 u n x1 x2 x3 x4 x5 x6 (x7 + (1 : Int32))) else fm_agreeing_6 u n x1 x2 x3 x4 x5 x7 (x7 + (1 : Int32))) else (fm_isBetter u x7 x6 x2 (-1 : Int32) x4).bind fun v11 => if v11 = 0 then (fm_agreeing_6 u n x1 x2 x3 x4 x5 x6 (x7 + (1 : Int32))) else fm_agreeing_6 u n x1 x2 x3 x4 x5 x7 (x7 + (1 : Int32))) else if (1 : Int32) = 0 then (fm_agreeing_6 u n x1 x2 x3 x4 x5 x6 (x7 + (1 : Int32))) else if ¬ x1 = (2 : Int32) then ((fm_isBetter u x7 x6 x2 x3 x4).bind fun v12 => if v12 = 0 then (fm_agreeing_6 u n x1 x2 x3 x4 x5 x6 (x7 + (1 : Int32))) else fm_agreeing_6 u n x1 x2 x3 x4 x5 x7 (x7 + (1 : Int32))) else (fm_isBetter u x7 x6 x2 (-1 : Int32) x4).bind fun v13 => if v13 = 0 then (fm_agreeing_6 u n x1 x2 x3 x4 x5 x6 (x7 + (1 : Int32))) else fm_agreeing_6 u n x1 x2 x3 x4 x5 x7 (x7 + (1 : Int32))) := rfl
def fm_reason (u : g_S) (p1 : Int32) (p2 : Int32) (p3 : Int32) (p4 : Int32) (p5 : Int32) (p6 : Int32) : Option (Int32 × g_S) := gl (g_sI u 3 (1 : Int32)) fun u1 => (fm_again u1 p1 p2 p6).bind fun v2 => if v2 < 0 then (gl (g_sI u1 3 (2 : Int32)) fun u3 => (fm_onStretch u3 p2 p3 p5).bind fun v4 => if v4 < 0 then (gl (g_sI u3 3 (3 : Int32)) fun u5 => (fm_agreeing u5 (1 : Int32) p2 p3 p4 p6).bind fun v6 => if v6 < 0 then (gl (g_sI u5 3 (4 : Int32)) fun u7 => (fm_agreeing u7 (2 : Int32) p2 p3 p4 p6).bind fun v8 => if v8 < 0 then (gl (g_sI u7 3 (0 : Int32)) fun u9 => some (v8, u9)) else gl (g_sI u7 3 (4 : Int32)) fun u10 => some (v8, u10)) else some (v6, u5)) else some (v4, u3)) else some (v2, u1)
def fm_isRange (u : g_S) (p1 : Int32) (p2 : Int32) (p3 : Int32) : Option (Int32) := (fm_in p1 (0 : Int32) (999 : Int32)).bind fun v1 => if v1 = 0 then (some (0 : Int32)) else (fm_in p2 (-1 : Int32) (99999999 : Int32)).bind fun v2 => if v2 = 0 then (some (0 : Int32)) else if ¬ (u.1 1) = 0 then (ck ((u.1 1) - (1 : Int32)) 120 <| if p3 < (u.2 11 ((u.1 1) - (1 : Int32)).toNatClampNeg) then (some (0 : Int32)) else some (1 : Int32)) else if p3 < (0 : Int32) then (some (0 : Int32)) else some (1 : Int32)
def fm_isKnown (p0 : Int32) (p1 : Int32) : Option (Int32) := (fm_isKind p0).bind fun v1 => if v1 = 0 then (some (0 : Int32)) else (fm_in p1 (-1 : Int32) (7 : Int32)).bind fun v2 => if v2 = 0 then (some (0 : Int32)) else some (1 : Int32)
def fm_newEvent (u : g_S)  : Option (Int32 × g_S) := ck (u.1 2) 60 <| gl (g_sA u 16 (u.1 2) (0 : Int32)) fun u1 => ck (u1.1 2) 60 <| gl (g_sA u1 17 (u1.1 2) (-1 : Int32)) fun u2 => gl (g_sI u2 2 ((u2.1 2) + (1 : Int32))) fun u3 => some (((u3.1 2) - (1 : Int32)), u3)
def fm_call_199 (u : g_S) (x8 : Int32) (y1 : Int32) (y2 : Int32) : Option (Int32 × g_S) := ck y1 120 <| gl (g_sA u 12 y1 y2) fun u15 => gl (g_sI u15 1 ((u15.1 1) + (1 : Int32))) fun u16 => some (x8, u16)
def fm_call_90 (u : g_S) (x1 : Int32) (x2 : Int32) (x3 : Int32) (x4 : Int32) (x6 : Int32) (x7 : Int32) (y1 : Int32) (y2 : Int32) (y3 : Int32) : Option (Int32 × g_S) := (fm_throwing u y1 y2 y3).bind fun v5 => if v5.1 = 0 then (gl (v5.2.1 1) fun w6 => ck w6 120 <| gl (g_sA v5.2 7 w6 x1) fun u7 => ck w6 120 <| gl (g_sA u7 8 w6 x2) fun u8 => ck w6 120 <| gl (g_sA u8 9 w6 x3) fun u9 => ck w6 120 <| gl (g_sA u9 10 w6 x4) fun u10 => ck w6 120 <| gl (g_sA u10 11 w6 x6) fun u11 => ck w6 120 <| gl (g_sA u11 14 w6 (0 : Int32)) fun u12 => ck w6 120 <| gl (g_sA u12 13 w6 x7) fun u13 => ck w6 120 <| gl (g_sA u13 15 w6 (u13.1 3)) fun u14 => if 0 ≤ x7 then (ck x7 120 <| fm_call_199 u14 w6 w6 (u14.2 12 x7.toNatClampNeg)) else (fm_newEvent u14 ).bind fun v17 => fm_call_199 v17.2 w6 w6 v17.1) else some ((0 : Int32), v5.2)
def fm_call_45 (u : g_S) (x1 : Int32) (x2 : Int32) (x3 : Int32) (x4 : Int32) (x5 : Int32) (x6 : Int32) (y1 : Int32) (y2 : Int32) (y3 : Int32) : Option (Int32 × g_S) := (fm_throwing u y1 y2 y3).bind fun v3 => if v3.1 = 0 then ((fm_reason v3.2 x1 x2 x3 x4 x5 x6).bind fun v4 => if 0 ≤ v4.1 then (fm_call_90 v4.2 x1 x2 x3 x4 x6 v4.1 (0 : Int32) (0 : Int32) (0 : Int32)) else if ¬ (v4.2.1 2) = (60 : Int32) then (fm_call_90 v4.2 x1 x2 x3 x4 x6 v4.1 (0 : Int32) (0 : Int32) (0 : Int32)) else fm_call_90 v4.2 x1 x2 x3 x4 x6 v4.1 (0 : Int32) (0 : Int32) (1 : Int32)) else some ((0 : Int32), v3.2)
def fm_call_31 (u : g_S) (x1 : Int32) (x2 : Int32) (x3 : Int32) (x4 : Int32) (x5 : Int32) (x6 : Int32) (y1 : Int32) (y2 : Int32) : Option (Int32 × g_S) := if ¬ (u.1 1) = (120 : Int32) then (fm_call_45 u x1 x2 x3 x4 x5 x6 y1 y2 (0 : Int32)) else fm_call_45 u x1 x2 x3 x4 x5 x6 y1 y2 (1 : Int32)
def fm_call_15 (u : g_S) (x1 : Int32) (x2 : Int32) (x3 : Int32) (x4 : Int32) (x5 : Int32) (x6 : Int32) (y1 : Int32) : Option (Int32 × g_S) := (fm_isRange u x1 x3 x6).bind fun v2 => if ¬ v2 = 0 then (fm_call_31 u x1 x2 x3 x4 x5 x6 y1 (0 : Int32)) else fm_call_31 u x1 x2 x3 x4 x5 x6 y1 (1 : Int32)
def fm_call (u : g_S) (p1 : Int32) (p2 : Int32) (p3 : Int32) (p4 : Int32) (p5 : Int32) (p6 : Int32) : Option (Int32 × g_S) := (fm_isKnown p2 p5).bind fun v1 => if ¬ v1 = 0 then (fm_call_15 u p1 p2 p3 p4 p5 p6 (0 : Int32)) else fm_call_15 u p1 p2 p3 p4 p5 p6 (1 : Int32)
def fm_reasonFor_31 (u : g_S) (x1 : Int32) (x2 : Int32) (x3 : Int32) (x4 : Int32) (x5 : Int32) (x6 : Int32) (y1 : Int32) (y2 : Int32) : Option (Int32 × g_S) := (fm_throwing u y1 y2 (0 : Int32)).bind fun v3 => if v3.1 = 0 then ((fm_reason v3.2 x1 x2 x3 x4 x5 x6).bind fun v4 => some (v4.1, v4.2)) else some ((0 : Int32), v3.2)
def fm_reasonFor_15 (u : g_S) (x1 : Int32) (x2 : Int32) (x3 : Int32) (x4 : Int32) (x5 : Int32) (x6 : Int32) (y1 : Int32) : Option (Int32 × g_S) := (fm_isRange u x1 x3 x6).bind fun v2 => if ¬ v2 = 0 then (fm_reasonFor_31 u x1 x2 x3 x4 x5 x6 y1 (0 : Int32)) else fm_reasonFor_31 u x1 x2 x3 x4 x5 x6 y1 (1 : Int32)
def fm_reasonFor (u : g_S) (p1 : Int32) (p2 : Int32) (p3 : Int32) (p4 : Int32) (p5 : Int32) (p6 : Int32) : Option (Int32 × g_S) := (fm_isKnown p2 p5).bind fun v1 => if ¬ v1 = 0 then (fm_reasonFor_15 u p1 p2 p3 p4 p5 p6 (0 : Int32)) else fm_reasonFor_15 u p1 p2 p3 p4 p5 p6 (1 : Int32)
def fm_mark_29 (u : g_S) (x1 : Int32) (x2 : Int32) (y1 : Int32) (y2 : Int32) : Option (g_S) := (fm_throwing u y1 y2 (0 : Int32)).bind fun v3 => if v3.1 = 0 then (ck x1 120 <| gl (g_sA v3.2 14 x1 x2) fun u4 => some u4) else some v3.2
def fm_mark_14 (u : g_S) (x1 : Int32) (x2 : Int32) (y1 : Int32) : Option (g_S) := (fm_in x2 (0 : Int32) (7 : Int32)).bind fun v2 => if ¬ v2 = 0 then (fm_mark_29 u x1 x2 y1 (0 : Int32)) else fm_mark_29 u x1 x2 y1 (1 : Int32)
def fm_mark (u : g_S) (p1 : Int32) (p2 : Int32) : Option (g_S) := (fm_isCall u p1).bind fun v1 => if ¬ v1 = 0 then (fm_mark_14 u p1 p2 (0 : Int32)) else fm_mark_14 u p1 p2 (1 : Int32)
def fm_split_124 (k113 : g_S → Int32 → Int32 → Int32 → Option (Int32 × g_S)) : Nat → g_S → Int32 → Int32 → Int32 → Int32 → Option (Int32 × g_S)
  | 0, _, _, _, _, _ => none
  | n + 1, u, x4, x5, x6, x7 => if (u.1 1) ≤ x7 then (k113 u x4 x5 x6) else ck x7 120 <| if ¬ (u.2 12 x7.toNatClampNeg) = x5 then (fm_split_124 k113 n u x4 x5 x6 (x7 + (1 : Int32))) else ck x7 120 <| if (u.2 13 x7.toNatClampNeg) < 0 then (fm_split_124 k113 n u x4 x5 x6 (x7 + (1 : Int32))) else ck x7 120 <| ck (u.2 13 x7.toNatClampNeg) 120 <| if ¬ (u.2 12 (u.2 13 x7.toNatClampNeg).toNatClampNeg) = x4 then (fm_split_124 k113 n u x4 x5 x6 (x7 + (1 : Int32))) else ck x7 120 <| gl (g_sA u 12 x7 x4) fun u8 => fm_split_124 k113 n u8 x4 x5 (1 : Int32) (x7 + (1 : Int32))
def fm_split_113 : Nat → g_S → Int32 → Int32 → Int32 → Option (Int32 × g_S)
  | 0, _, _, _, _ => none
  | n + 1, u, x4, x5, x6 => if x6 = 0 then (some (x4, u)) else fm_split_124 (fm_split_113 n) 200 u x4 x5 (0 : Int32) (0 : Int32)
def fm_split_66 (u : g_S) (x1 : Int32) (y1 : Int32) (y2 : Int32) (y3 : Int32) : Option (Int32 × g_S) := (fm_throwing u y1 y2 y3).bind fun v2 => if v2.1 = 0 then ((fm_newEvent v2.2 ).bind fun v3 => ck x1 120 <| gl (g_sA v3.2 13 x1 (-1 : Int32)) fun u4 => ck x1 120 <| gl (g_sA u4 15 x1 (0 : Int32)) fun u5 => ck x1 120 <| gl (u5.2 12 x1.toNatClampNeg) fun w6 => ck x1 120 <| gl (g_sA u5 12 x1 v3.1) fun u7 => fm_split_113 200 u7 v3.1 w6 (1 : Int32)) else some ((0 : Int32), v2.2)
def fm_split_52 (u : g_S) (x1 : Int32) (y1 : Int32) (y2 : Int32) : Option (Int32 × g_S) := if ¬ (u.1 2) = (60 : Int32) then (fm_split_66 u x1 y1 y2 (0 : Int32)) else fm_split_66 u x1 y1 y2 (1 : Int32)
def fm_split_32 (u : g_S) (x1 : Int32) (x2 : Int32) (y0 : Int32) : Option (Int32 × g_S) := if ¬ x2 = 0 then (if ¬ y0 = 0 then (fm_split_52 u x1 (0 : Int32) (0 : Int32)) else fm_split_52 u x1 (0 : Int32) (1 : Int32)) else if ¬ y0 = 0 then (fm_split_52 u x1 (1 : Int32) (0 : Int32)) else fm_split_52 u x1 (1 : Int32) (1 : Int32)
def fm_split (u : g_S) (p1 : Int32) : Option (Int32 × g_S) := (fm_isCall u p1).bind fun v1 => if v1 = 0 then (fm_split_32 u p1 v1 (0 : Int32)) else ck p1 120 <| if (u.2 13 p1.toNatClampNeg) < 0 then (fm_split_32 u p1 v1 (0 : Int32)) else (fm_isOpen u p1).bind fun v9 => if v9 = 0 then (fm_split_32 u p1 v1 (0 : Int32)) else fm_split_32 u p1 v1 (1 : Int32)
theorem fm_split_113_s (u : g_S) (n : Nat) (x4 : Int32) (x5 : Int32) (x6 : Int32) : fm_split_113 (n + 1) u x4 x5 x6 = (if x6 = 0 then (some (x4, u)) else fm_split_124 (fm_split_113 n) 200 u x4 x5 (0 : Int32) (0 : Int32)) := rfl
theorem fm_split_124_s (k113 : g_S → Int32 → Int32 → Int32 → Option (Int32 × g_S)) (u : g_S) (n : Nat) (x4 : Int32) (x5 : Int32) (x6 : Int32) (x7 : Int32) : fm_split_124 k113 (n + 1) u x4 x5 x6 x7 = (if (u.1 1) ≤ x7 then (k113 u x4 x5 x6) else ck x7 120 <| if ¬ (u.2 12 x7.toNatClampNeg) = x5 then (fm_split_124 k113 n u x4 x5 x6 (x7 + (1 : Int32))) else ck x7 120 <| if (u.2 13 x7.toNatClampNeg) < 0 then (fm_split_124 k113 n u x4 x5 x6 (x7 + (1 : Int32))) else ck x7 120 <| ck (u.2 13 x7.toNatClampNeg) 120 <| if ¬ (u.2 12 (u.2 13 x7.toNatClampNeg).toNatClampNeg) = x4 then (fm_split_124 k113 n u x4 x5 x6 (x7 + (1 : Int32))) else ck x7 120 <| gl (g_sA u 12 x7 x4) fun u8 => fm_split_124 k113 n u8 x4 x5 (1 : Int32) (x7 + (1 : Int32))) := rfl
def fm_size_4 (u : g_S) : Nat → Int32 → Int32 → Int32 → Option (Int32)
  | 0, _, _, _ => none
  | n + 1, x1, x2, x3 => if (u.1 1) ≤ x3 then (some x2) else ck x3 120 <| if ¬ (u.2 12 x3.toNatClampNeg) = x1 then (gl (x2 + (0 : Int32)) fun w1 => fm_size_4 u n x1 w1 (x3 + (1 : Int32))) else gl (x2 + (1 : Int32)) fun w2 => fm_size_4 u n x1 w2 (x3 + (1 : Int32))
def fm_size (u : g_S) (p1 : Int32) : Option (Int32) := fm_size_4 u 200 p1 (0 : Int32) (0 : Int32)
theorem fm_size_4_s (u : g_S) (n : Nat) (x1 : Int32) (x2 : Int32) (x3 : Int32) : fm_size_4 u (n + 1) x1 x2 x3 = (if (u.1 1) ≤ x3 then (some x2) else ck x3 120 <| if ¬ (u.2 12 x3.toNatClampNeg) = x1 then (gl (x2 + (0 : Int32)) fun w1 => fm_size_4 u n x1 w1 (x3 + (1 : Int32))) else gl (x2 + (1 : Int32)) fun w2 => fm_size_4 u n x1 w2 (x3 + (1 : Int32))) := rfl
def fm_merge_115 : Nat → g_S → Int32 → Int32 → Int32 → Option (Int32 × g_S)
  | 0, _, _, _, _ => none
  | n + 1, u, x1, x2, x6 => if (u.1 1) ≤ x6 then (ck x1 60 <| gl (g_sA u 16 x1 (3 : Int32)) fun u6 => ck x1 60 <| gl (g_sA u6 17 x1 (-1 : Int32)) fun u7 => ck x2 120 <| (fm_size u7 (u7.2 12 x2.toNatClampNeg)).bind fun v8 => some (v8, u7)) else ck x6 120 <| if ¬ (u.2 12 x6.toNatClampNeg) = x1 then (fm_merge_115 n u x1 x2 (x6 + (1 : Int32))) else ck x2 120 <| ck x6 120 <| gl (g_sA u 12 x6 (u.2 12 x2.toNatClampNeg)) fun u9 => fm_merge_115 n u9 x1 x2 (x6 + (1 : Int32))
def fm_merge_80 (u : g_S) (x1 : Int32) (x2 : Int32) (y1 : Int32) (y2 : Int32) : Option (Int32 × g_S) := (fm_throwing u y1 y2 (0 : Int32)).bind fun v2 => if v2.1 = 0 then ((fm_firstOf v2.2 x1).bind fun v3 => ck v3 120 <| gl (g_sA v2.2 13 v3 x2) fun u4 => ck v3 120 <| gl (g_sA u4 15 v3 (5 : Int32)) fun u5 => fm_merge_115 200 u5 x1 x2 (0 : Int32)) else some ((0 : Int32), v2.2)
def fm_merge_58 (u : g_S) (x1 : Int32) (x2 : Int32) (x3 : Int32) (y0 : Int32) : Option (Int32 × g_S) := if ¬ x3 = 0 then (if ¬ y0 = 0 then (fm_merge_80 u x1 x2 (0 : Int32) (0 : Int32)) else fm_merge_80 u x1 x2 (0 : Int32) (1 : Int32)) else if ¬ y0 = 0 then (fm_merge_80 u x1 x2 (1 : Int32) (0 : Int32)) else fm_merge_80 u x1 x2 (1 : Int32) (1 : Int32)
def fm_merge_21 (u : g_S) (x1 : Int32) (x2 : Int32) (y0 : Int32) : Option (Int32 × g_S) := if y0 = 0 then (fm_merge_58 u x1 x2 y0 (0 : Int32)) else ck x1 60 <| if ¬ (u.2 16 x1.toNatClampNeg) = 0 then (fm_merge_58 u x1 x2 y0 (0 : Int32)) else (fm_isOpen u x2).bind fun v10 => if v10 = 0 then (fm_merge_58 u x1 x2 y0 (0 : Int32)) else ck x2 120 <| if (u.2 12 x2.toNatClampNeg) = x1 then (fm_merge_58 u x1 x2 y0 (0 : Int32)) else fm_merge_58 u x1 x2 y0 (1 : Int32)
def fm_merge (u : g_S) (p1 : Int32) (p2 : Int32) : Option (Int32 × g_S) := (fm_isEvent u p1).bind fun v1 => if v1 = 0 then (fm_merge_21 u p1 p2 (0 : Int32)) else (fm_isCall u p2).bind fun v11 => if v11 = 0 then (fm_merge_21 u p1 p2 (0 : Int32)) else fm_merge_21 u p1 p2 (1 : Int32)
theorem fm_merge_115_s (u : g_S) (n : Nat) (x1 : Int32) (x2 : Int32) (x6 : Int32) : fm_merge_115 (n + 1) u x1 x2 x6 = (if (u.1 1) ≤ x6 then (ck x1 60 <| gl (g_sA u 16 x1 (3 : Int32)) fun u6 => ck x1 60 <| gl (g_sA u6 17 x1 (-1 : Int32)) fun u7 => ck x2 120 <| (fm_size u7 (u7.2 12 x2.toNatClampNeg)).bind fun v8 => some (v8, u7)) else ck x6 120 <| if ¬ (u.2 12 x6.toNatClampNeg) = x1 then (fm_merge_115 n u x1 x2 (x6 + (1 : Int32))) else ck x2 120 <| ck x6 120 <| gl (g_sA u 12 x6 (u.2 12 x2.toNatClampNeg)) fun u9 => fm_merge_115 n u9 x1 x2 (x6 + (1 : Int32))) := rfl
def fm_watch_113 (u : g_S) (x1 : Int32) (x2 : Int32) (x3 : Int32) (x4 : Int32) (y1 : Int32) (y2 : Int32) (y3 : Int32) : Option (g_S) := (fm_throwing u y1 y2 y3).bind fun v2 => if v2.1 = 0 then (ck x1 60 <| gl (g_sA v2.2 17 x1 x2) fun u3 => ck x1 60 <| gl (g_sA u3 18 x1 x3) fun u4 => ck x1 60 <| gl (g_sA u4 19 x1 x4) fun u5 => some u5) else some v2.2
def fm_watch_94 (u : g_S) (x1 : Int32) (x2 : Int32) (x3 : Int32) (x4 : Int32) (x5 : Int32) (y1 : Int32) (y2 : Int32) : Option (g_S) := if x5 = 0 then (fm_watch_113 u x1 x2 x3 x4 y1 y2 (0 : Int32)) else ck x1 60 <| if (u.2 16 x1.toNatClampNeg) = 0 then (fm_watch_113 u x1 x2 x3 x4 y1 y2 (0 : Int32)) else fm_watch_113 u x1 x2 x3 x4 y1 y2 (1 : Int32)
def fm_watch_71 (u : g_S) (x1 : Int32) (x2 : Int32) (x3 : Int32) (x4 : Int32) (x5 : Int32) (y0 : Int32) : Option (g_S) := if ¬ x5 = 0 then (if ¬ y0 = 0 then (fm_watch_94 u x1 x2 x3 x4 x5 (0 : Int32) (0 : Int32)) else fm_watch_94 u x1 x2 x3 x4 x5 (0 : Int32) (1 : Int32)) else if ¬ y0 = 0 then (fm_watch_94 u x1 x2 x3 x4 x5 (1 : Int32) (0 : Int32)) else fm_watch_94 u x1 x2 x3 x4 x5 (1 : Int32) (1 : Int32)
def fm_watch_20 (u : g_S) (x1 : Int32) (x2 : Int32) (x3 : Int32) (x4 : Int32) (y0 : Int32) : Option (g_S) := if y0 = 0 then (fm_watch_71 u x1 x2 x3 x4 y0 (0 : Int32)) else ck x2 8 <| (fm_in x3 (0 : Int32) ((u.2 5 x2.toNatClampNeg) - (1 : Int32))).bind fun v6 => if v6 = 0 then (fm_watch_71 u x1 x2 x3 x4 y0 (0 : Int32)) else ck x2 8 <| (fm_in x4 (0 : Int32) ((u.2 5 x2.toNatClampNeg) - (1 : Int32))).bind fun v7 => if v7 = 0 then (fm_watch_71 u x1 x2 x3 x4 y0 (0 : Int32)) else if x3 = x4 then (fm_watch_71 u x1 x2 x3 x4 y0 (0 : Int32)) else fm_watch_71 u x1 x2 x3 x4 y0 (1 : Int32)
def fm_watch (u : g_S) (p1 : Int32) (p2 : Int32) (p3 : Int32) (p4 : Int32) : Option (g_S) := (fm_isEvent u p1).bind fun v1 => if v1 = 0 then (fm_watch_20 u p1 p2 p3 p4 (0 : Int32)) else (fm_isRoad p2).bind fun v8 => if v8 = 0 then (fm_watch_20 u p1 p2 p3 p4 (0 : Int32)) else fm_watch_20 u p1 p2 p3 p4 (1 : Int32)
def fm_state_59 (u : g_S) (x1 : Int32) (x2 : Int32) (y1 : Int32) (y2 : Int32) (y3 : Int32) : Option (g_S) := (fm_throwing u y1 y2 y3).bind fun v3 => if v3.1 = 0 then (ck x1 60 <| gl (g_sA v3.2 16 x1 x2) fun u4 => some u4) else some v3.2
def fm_state_30 (u : g_S) (x1 : Int32) (x2 : Int32) (x3 : Int32) (y1 : Int32) (y2 : Int32) : Option (g_S) := if x3 = 0 then (fm_state_59 u x1 x2 y1 y2 (0 : Int32)) else ck x1 60 <| if (u.2 16 x1.toNatClampNeg) = x2 then (fm_state_59 u x1 x2 y1 y2 (1 : Int32)) else ck x1 60 <| if ¬ (u.2 16 x1.toNatClampNeg) = (3 : Int32) then (fm_state_59 u x1 x2 y1 y2 (0 : Int32)) else fm_state_59 u x1 x2 y1 y2 (1 : Int32)
def fm_state_16 (u : g_S) (x1 : Int32) (x2 : Int32) (x3 : Int32) (y1 : Int32) : Option (g_S) := (fm_in x2 (0 : Int32) (2 : Int32)).bind fun v2 => if ¬ v2 = 0 then (fm_state_30 u x1 x2 x3 y1 (0 : Int32)) else fm_state_30 u x1 x2 x3 y1 (1 : Int32)
def fm_state (u : g_S) (p1 : Int32) (p2 : Int32) : Option (g_S) := (fm_isEvent u p1).bind fun v1 => if ¬ v1 = 0 then (fm_state_16 u p1 p2 v1 (0 : Int32)) else fm_state_16 u p1 p2 v1 (1 : Int32)
def fm_share_101 (u : g_S) (x1 : Int32) (x2 : Int32) (x4 : Int32) (x5 : Int32) (y1 : Int32) (y2 : Int32) : Option (Int32 × g_S) := (fm_throwing u y1 y2 (0 : Int32)).bind fun v2 => if v2.1 = 0 then (ck x1 120 <| ck x2 120 <| (fm_sum v2.2 ((v2.2.2 10 x1.toNatClampNeg) &&& (v2.2.2 10 x2.toNatClampNeg)) x4).bind fun v3 => if x5 = 0 then none else some ((((1000 : Int32) * v3) / x5), v2.2)) else some ((0 : Int32), v2.2)
def fm_share_79 (u : g_S) (x1 : Int32) (x2 : Int32) (x3 : Int32) (x4 : Int32) (y0 : Int32) : Option (Int32 × g_S) := if ¬ x3 = 0 then (if ¬ y0 = 0 then (fm_share_101 u x1 x2 x4 y0 (0 : Int32) (0 : Int32)) else fm_share_101 u x1 x2 x4 y0 (0 : Int32) (1 : Int32)) else if ¬ y0 = 0 then (fm_share_101 u x1 x2 x4 y0 (1 : Int32) (0 : Int32)) else fm_share_101 u x1 x2 x4 y0 (1 : Int32) (1 : Int32)
def fm_share_50 (u : g_S) (x1 : Int32) (x2 : Int32) (x3 : Int32) (y0 : Int32) : Option (Int32 × g_S) := if x3 = 0 then (fm_share_79 u x1 x2 x3 y0 (0 : Int32)) else ck x1 120 <| ck x2 120 <| (fm_sum u ((u.2 10 x1.toNatClampNeg) ||| (u.2 10 x2.toNatClampNeg)) y0).bind fun v4 => fm_share_79 u x1 x2 x3 y0 v4
def fm_share_26 (u : g_S) (x1 : Int32) (x2 : Int32) (y0 : Int32) : Option (Int32 × g_S) := if y0 = 0 then (fm_share_50 u x1 x2 y0 (0 : Int32)) else if x1 ≤ x2 then (ck x2 120 <| fm_share_50 u x1 x2 y0 (u.2 8 x2.toNatClampNeg)) else ck x1 120 <| fm_share_50 u x1 x2 y0 (u.2 8 x1.toNatClampNeg)
def fm_share (u : g_S) (p1 : Int32) (p2 : Int32) : Option (Int32 × g_S) := (fm_isCall u p1).bind fun v1 => if v1 = 0 then (fm_share_26 u p1 p2 (0 : Int32)) else (fm_isCall u p2).bind fun v5 => if v5 = 0 then (fm_share_26 u p1 p2 (0 : Int32)) else if p1 = p2 then (fm_share_26 u p1 p2 (0 : Int32)) else fm_share_26 u p1 p2 (1 : Int32)
def fm_agree_57 (u : g_S) (x1 : Int32) (x2 : Int32) (y0 : Int32) : Option (Int32 × g_S) := gl ((x1 + x2) - y0) fun w3 => ck w3 120 <| ck w3 120 <| ck w3 120 <| ck w3 120 <| (fm_meets u y0 (u.2 8 w3.toNatClampNeg) (u.2 9 w3.toNatClampNeg) (u.2 10 w3.toNatClampNeg) (u.2 11 w3.toNatClampNeg)).bind fun v4 => some (v4, u)
def fm_agree_37 (u : g_S) (x1 : Int32) (x2 : Int32) (y1 : Int32) : Option (Int32 × g_S) := (fm_throwing u y1 (0 : Int32) (0 : Int32)).bind fun v2 => if v2.1 = 0 then (if x2 ≤ x1 then (fm_agree_57 v2.2 x1 x2 x2) else fm_agree_57 v2.2 x1 x2 x1) else some ((0 : Int32), v2.2)
def fm_agree_26 (u : g_S) (x1 : Int32) (x2 : Int32) (y0 : Int32) : Option (Int32 × g_S) := if ¬ y0 = 0 then (fm_agree_37 u x1 x2 (0 : Int32)) else fm_agree_37 u x1 x2 (1 : Int32)
def fm_agree (u : g_S) (p1 : Int32) (p2 : Int32) : Option (Int32 × g_S) := (fm_isCall u p1).bind fun v1 => if v1 = 0 then (fm_agree_26 u p1 p2 (0 : Int32)) else (fm_isCall u p2).bind fun v5 => if v5 = 0 then (fm_agree_26 u p1 p2 (0 : Int32)) else if p1 = p2 then (fm_agree_26 u p1 p2 (0 : Int32)) else fm_agree_26 u p1 p2 (1 : Int32)
def fm_callAt_23 (u : g_S) (x1 : Int32) (x2 : Int32) (y1 : Int32) : Option (Int32 × g_S) := (fm_throwing u y1 (0 : Int32) (0 : Int32)).bind fun v2 => if v2.1 = 0 then (if ¬ x2 = 0 then (if ¬ x2 = (1 : Int32) then (if ¬ x2 = (2 : Int32) then (if ¬ x2 = (3 : Int32) then (ck x1 120 <| some ((v2.2.2 15 x1.toNatClampNeg), v2.2)) else ck x1 120 <| some ((v2.2.2 8 x1.toNatClampNeg), v2.2)) else ck x1 120 <| some ((v2.2.2 14 x1.toNatClampNeg), v2.2)) else ck x1 120 <| some ((v2.2.2 13 x1.toNatClampNeg), v2.2)) else ck x1 120 <| some ((v2.2.2 12 x1.toNatClampNeg), v2.2)) else some ((0 : Int32), v2.2)
def fm_callAt (u : g_S) (p1 : Int32) (p2 : Int32) : Option (Int32 × g_S) := (fm_isCall u p1).bind fun v1 => if v1 = 0 then (fm_callAt_23 u p1 p2 (1 : Int32)) else (fm_in p2 (0 : Int32) (4 : Int32)).bind fun v3 => if ¬ v3 = 0 then (fm_callAt_23 u p1 p2 (0 : Int32)) else fm_callAt_23 u p1 p2 (1 : Int32)
def fm_weightOf_4 (u : g_S) : Nat → Int32 → Int32 → Int32 → Option (Int32)
  | 0, _, _, _ => none
  | n + 1, x1, x2, x3 => if (u.1 1) ≤ x3 then (some x2) else ck x3 120 <| if ¬ (u.2 12 x3.toNatClampNeg) = x1 then (fm_weightOf_4 u n x1 x2 (x3 + (1 : Int32))) else (fm_isHoax u x3).bind fun v1 => if ¬ v1 = 0 then (fm_weightOf_4 u n x1 x2 (x3 + (1 : Int32))) else ck x3 120 <| if ((u.2 14 x3.toNatClampNeg) &&& (1 : Int32)) = 0 then (ck x3 120 <| if (u.2 9 x3.toNatClampNeg) < 0 then (gl (x2 + (((4 : Int32) - (0 : Int32)) + (0 : Int32))) fun w2 => fm_weightOf_4 u n x1 w2 (x3 + (1 : Int32))) else gl (x2 + (((4 : Int32) - (0 : Int32)) + (1 : Int32))) fun w3 => fm_weightOf_4 u n x1 w3 (x3 + (1 : Int32))) else ck x3 120 <| if (u.2 9 x3.toNatClampNeg) < 0 then (gl (x2 + (((4 : Int32) - (2 : Int32)) + (0 : Int32))) fun w4 => fm_weightOf_4 u n x1 w4 (x3 + (1 : Int32))) else gl (x2 + (((4 : Int32) - (2 : Int32)) + (1 : Int32))) fun w5 => fm_weightOf_4 u n x1 w5 (x3 + (1 : Int32))
def fm_weightOf (u : g_S) (p1 : Int32) : Option (Int32) := fm_weightOf_4 u 200 p1 (0 : Int32) (0 : Int32)
theorem fm_weightOf_4_s (u : g_S) (n : Nat) (x1 : Int32) (x2 : Int32) (x3 : Int32) : fm_weightOf_4 u (n + 1) x1 x2 x3 = (if (u.1 1) ≤ x3 then (some x2) else ck x3 120 <| if ¬ (u.2 12 x3.toNatClampNeg) = x1 then (fm_weightOf_4 u n x1 x2 (x3 + (1 : Int32))) else (fm_isHoax u x3).bind fun v1 => if ¬ v1 = 0 then (fm_weightOf_4 u n x1 x2 (x3 + (1 : Int32))) else ck x3 120 <| if ((u.2 14 x3.toNatClampNeg) &&& (1 : Int32)) = 0 then (ck x3 120 <| if (u.2 9 x3.toNatClampNeg) < 0 then (gl (x2 + (((4 : Int32) - (0 : Int32)) + (0 : Int32))) fun w2 => fm_weightOf_4 u n x1 w2 (x3 + (1 : Int32))) else gl (x2 + (((4 : Int32) - (0 : Int32)) + (1 : Int32))) fun w3 => fm_weightOf_4 u n x1 w3 (x3 + (1 : Int32))) else ck x3 120 <| if (u.2 9 x3.toNatClampNeg) < 0 then (gl (x2 + (((4 : Int32) - (2 : Int32)) + (0 : Int32))) fun w4 => fm_weightOf_4 u n x1 w4 (x3 + (1 : Int32))) else gl (x2 + (((4 : Int32) - (2 : Int32)) + (1 : Int32))) fun w5 => fm_weightOf_4 u n x1 w5 (x3 + (1 : Int32))) := rfl
def fm_placeOf_2 (u : g_S) : Nat → Int32 → Int32 → Option (Int32)
  | 0, _, _ => none
  | n + 1, x1, x2 => if (u.1 1) ≤ x2 then (some (-1 : Int32)) else ck x2 120 <| if ¬ (u.2 12 x2.toNatClampNeg) = x1 then (fm_placeOf_2 u n x1 (x2 + (1 : Int32))) else (fm_isHoax u x2).bind fun v1 => if ¬ v1 = 0 then (fm_placeOf_2 u n x1 (x2 + (1 : Int32))) else ck x2 120 <| if (u.2 9 x2.toNatClampNeg) < 0 then (fm_placeOf_2 u n x1 (x2 + (1 : Int32))) else ck x2 120 <| some (u.2 9 x2.toNatClampNeg)
def fm_placeOf (u : g_S) (p1 : Int32) : Option (Int32) := fm_placeOf_2 u 200 p1 (0 : Int32)
theorem fm_placeOf_2_s (u : g_S) (n : Nat) (x1 : Int32) (x2 : Int32) : fm_placeOf_2 u (n + 1) x1 x2 = (if (u.1 1) ≤ x2 then (some (-1 : Int32)) else ck x2 120 <| if ¬ (u.2 12 x2.toNatClampNeg) = x1 then (fm_placeOf_2 u n x1 (x2 + (1 : Int32))) else (fm_isHoax u x2).bind fun v1 => if ¬ v1 = 0 then (fm_placeOf_2 u n x1 (x2 + (1 : Int32))) else ck x2 120 <| if (u.2 9 x2.toNatClampNeg) < 0 then (fm_placeOf_2 u n x1 (x2 + (1 : Int32))) else ck x2 120 <| some (u.2 9 x2.toNatClampNeg)) := rfl
def fm_latestOf_4 (u : g_S) : Nat → Int32 → Int32 → Int32 → Option (Int32)
  | 0, _, _, _ => none
  | n + 1, x1, x2, x3 => if (u.1 1) ≤ x3 then (some x2) else ck x3 120 <| if ¬ (u.2 12 x3.toNatClampNeg) = x1 then (fm_latestOf_4 u n x1 x2 (x3 + (1 : Int32))) else ck x3 120 <| gl (u.2 11 x3.toNatClampNeg) fun w1 => fm_latestOf_4 u n x1 w1 (x3 + (1 : Int32))
def fm_latestOf (u : g_S) (p1 : Int32) : Option (Int32) := fm_latestOf_4 u 200 p1 (-1 : Int32) (0 : Int32)
theorem fm_latestOf_4_s (u : g_S) (n : Nat) (x1 : Int32) (x2 : Int32) (x3 : Int32) : fm_latestOf_4 u (n + 1) x1 x2 x3 = (if (u.1 1) ≤ x3 then (some x2) else ck x3 120 <| if ¬ (u.2 12 x3.toNatClampNeg) = x1 then (fm_latestOf_4 u n x1 x2 (x3 + (1 : Int32))) else ck x3 120 <| gl (u.2 11 x3.toNatClampNeg) fun w1 => fm_latestOf_4 u n x1 w1 (x3 + (1 : Int32))) := rfl
def fm_eventAt_24 (u : g_S) (x1 : Int32) (x2 : Int32) (y1 : Int32) : Option (Int32 × g_S) := (fm_throwing u y1 (0 : Int32) (0 : Int32)).bind fun v2 => if v2.1 = 0 then ((fm_firstOf v2.2 x1).bind fun v3 => if x2 = (0 : Int32) then (ck x1 60 <| some ((v2.2.2 16 x1.toNatClampNeg), v2.2)) else if x2 = (1 : Int32) then ((fm_size v2.2 x1).bind fun v4 => some (v4, v2.2)) else if x2 = (2 : Int32) then (if 0 ≤ v3 then (ck v3 120 <| some ((v2.2.2 8 v3.toNatClampNeg), v2.2)) else some ((-1 : Int32), v2.2)) else if x2 = (3 : Int32) then ((fm_weightOf v2.2 x1).bind fun v5 => some (v5, v2.2)) else if x2 = (4 : Int32) then ((fm_placeOf v2.2 x1).bind fun v6 => some (v6, v2.2)) else if x2 = (5 : Int32) then (some (v3, v2.2)) else (fm_latestOf v2.2 x1).bind fun v7 => some (v7, v2.2)) else some ((0 : Int32), v2.2)
def fm_eventAt (u : g_S) (p1 : Int32) (p2 : Int32) : Option (Int32 × g_S) := (fm_isEvent u p1).bind fun v1 => if v1 = 0 then (fm_eventAt_24 u p1 p2 (1 : Int32)) else (fm_in p2 (0 : Int32) (6 : Int32)).bind fun v8 => if ¬ v8 = 0 then (fm_eventAt_24 u p1 p2 (0 : Int32)) else fm_eventAt_24 u p1 p2 (1 : Int32)
def fm_member_55 : Nat → g_S → Int32 → Int32 → Int32 → Option (Int32 × g_S)
  | 0, _, _, _, _ => none
  | n + 1, u, x1, x4, x5 => if (u.1 1) ≤ x5 then (some ((0 : Int32), u)) else ck x5 120 <| if ¬ (u.2 12 x5.toNatClampNeg) = x1 then (ck x5 120 <| if ¬ (u.2 12 x5.toNatClampNeg) = x1 then (gl (x4 - (0 : Int32)) fun w3 => fm_member_55 n u x1 w3 (x5 + (1 : Int32))) else gl (x4 - (1 : Int32)) fun w4 => fm_member_55 n u x1 w4 (x5 + (1 : Int32))) else if ¬ x4 = 0 then (ck x5 120 <| if ¬ (u.2 12 x5.toNatClampNeg) = x1 then (gl (x4 - (0 : Int32)) fun w5 => fm_member_55 n u x1 w5 (x5 + (1 : Int32))) else gl (x4 - (1 : Int32)) fun w6 => fm_member_55 n u x1 w6 (x5 + (1 : Int32))) else some (x5, u)
def fm_member_40 (u : g_S) (x1 : Int32) (x2 : Int32) (y1 : Int32) (y2 : Int32) : Option (Int32 × g_S) := (fm_throwing u y1 y2 (0 : Int32)).bind fun v2 => if v2.1 = 0 then (fm_member_55 200 v2.2 x1 x2 (0 : Int32)) else some ((0 : Int32), v2.2)
def fm_member_16 (u : g_S) (x1 : Int32) (x2 : Int32) (x3 : Int32) (y1 : Int32) : Option (Int32 × g_S) := if x3 = 0 then (fm_member_40 u x1 x2 y1 (0 : Int32)) else (fm_size u x1).bind fun v7 => (fm_in x2 (0 : Int32) (v7 - (1 : Int32))).bind fun v8 => if ¬ v8 = 0 then (fm_member_40 u x1 x2 y1 (0 : Int32)) else fm_member_40 u x1 x2 y1 (1 : Int32)
def fm_member (u : g_S) (p1 : Int32) (p2 : Int32) : Option (Int32 × g_S) := (fm_isEvent u p1).bind fun v1 => if ¬ v1 = 0 then (fm_member_16 u p1 p2 v1 (0 : Int32)) else fm_member_16 u p1 p2 v1 (1 : Int32)
theorem fm_member_55_s (u : g_S) (n : Nat) (x1 : Int32) (x4 : Int32) (x5 : Int32) : fm_member_55 (n + 1) u x1 x4 x5 = (if (u.1 1) ≤ x5 then (some ((0 : Int32), u)) else ck x5 120 <| if ¬ (u.2 12 x5.toNatClampNeg) = x1 then (ck x5 120 <| if ¬ (u.2 12 x5.toNatClampNeg) = x1 then (gl (x4 - (0 : Int32)) fun w3 => fm_member_55 n u x1 w3 (x5 + (1 : Int32))) else gl (x4 - (1 : Int32)) fun w4 => fm_member_55 n u x1 w4 (x5 + (1 : Int32))) else if ¬ x4 = 0 then (ck x5 120 <| if ¬ (u.2 12 x5.toNatClampNeg) = x1 then (gl (x4 - (0 : Int32)) fun w5 => fm_member_55 n u x1 w5 (x5 + (1 : Int32))) else gl (x4 - (1 : Int32)) fun w6 => fm_member_55 n u x1 w6 (x5 + (1 : Int32))) else some (x5, u)) := rfl
def fm_count_88 : Nat → g_S → Int32 → Int32 → Int32 → Option (Int32 × g_S)
  | 0, _, _, _, _ => none
  | n + 1, u, x1, x2, x3 => if (u.1 1) ≤ x3 then (some (x2, u)) else if ¬ x1 = (3 : Int32) then (some (x2, u)) else (fm_isHoax u x3).bind fun v3 => if v3 = 0 then (gl (x2 + (0 : Int32)) fun w4 => fm_count_88 n u x1 w4 (x3 + (1 : Int32))) else gl (x2 + (1 : Int32)) fun w5 => fm_count_88 n u x1 w5 (x3 + (1 : Int32))
def fm_count_50 : Nat → g_S → Int32 → Int32 → Int32 → Option (Int32 × g_S)
  | 0, _, _, _, _ => none
  | n + 1, u, x1, x2, x3 => if (u.1 2) ≤ x3 then (fm_count_88 200 u x1 x2 (0 : Int32)) else if ¬ x1 = (2 : Int32) then (fm_count_88 200 u x1 x2 (0 : Int32)) else ck x3 60 <| if ¬ (u.2 16 x3.toNatClampNeg) = 0 then (gl (x2 + (0 : Int32)) fun w6 => fm_count_50 n u x1 w6 (x3 + (1 : Int32))) else gl (x2 + (1 : Int32)) fun w7 => fm_count_50 n u x1 w7 (x3 + (1 : Int32))
def fm_count_15 (u : g_S) (x1 : Int32) (y1 : Int32) : Option (Int32 × g_S) := (fm_throwing u y1 (0 : Int32) (0 : Int32)).bind fun v2 => if v2.1 = 0 then (if (2 : Int32) ≤ x1 then (fm_count_50 200 v2.2 x1 (0 : Int32) (0 : Int32)) else if ¬ x1 = 0 then (some ((v2.2.1 2), v2.2)) else some ((v2.2.1 1), v2.2)) else some ((0 : Int32), v2.2)
def fm_count (u : g_S) (p1 : Int32) : Option (Int32 × g_S) := (fm_in p1 (0 : Int32) (3 : Int32)).bind fun v1 => if ¬ v1 = 0 then (fm_count_15 u p1 (0 : Int32)) else fm_count_15 u p1 (1 : Int32)
theorem fm_count_50_s (u : g_S) (n : Nat) (x1 : Int32) (x2 : Int32) (x3 : Int32) : fm_count_50 (n + 1) u x1 x2 x3 = (if (u.1 2) ≤ x3 then (fm_count_88 200 u x1 x2 (0 : Int32)) else if ¬ x1 = (2 : Int32) then (fm_count_88 200 u x1 x2 (0 : Int32)) else ck x3 60 <| if ¬ (u.2 16 x3.toNatClampNeg) = 0 then (gl (x2 + (0 : Int32)) fun w6 => fm_count_50 n u x1 w6 (x3 + (1 : Int32))) else gl (x2 + (1 : Int32)) fun w7 => fm_count_50 n u x1 w7 (x3 + (1 : Int32))) := rfl
theorem fm_count_88_s (u : g_S) (n : Nat) (x1 : Int32) (x2 : Int32) (x3 : Int32) : fm_count_88 (n + 1) u x1 x2 x3 = (if (u.1 1) ≤ x3 then (some (x2, u)) else if ¬ x1 = (3 : Int32) then (some (x2, u)) else (fm_isHoax u x3).bind fun v3 => if v3 = 0 then (gl (x2 + (0 : Int32)) fun w4 => fm_count_88 n u x1 w4 (x3 + (1 : Int32))) else gl (x2 + (1 : Int32)) fun w5 => fm_count_88 n u x1 w5 (x3 + (1 : Int32))) := rfl
end
section
theorem gl_r {α β : Type} {x : α} {k : α → Option β} : gl x k = k x := rfl
theorem bi_s {α β : Type} {o : Option α} {v : α} {k : α → Option β} (h : o = some v) : o.bind k = k v := by rw [h]; rfl
theorem ck_nI {β : Type} {i n : Nat} {x : Option β} (h : i < n) (hn : n < 2 ^ 31) : ck (nI i) n x = x := ck_in (vp_in_nI h hn)
theorem rdA (u : g_S) (k : Nat) (i v : Int32) (k' j : Nat) : (g_sA u k i v).2 k' j = if k' = k ∧ j = i.toNatClampNeg then v else u.2 k' j := by
  show (va_up u.2 k (upd (u.2 k) i.toNatClampNeg v)) k' j = _
  unfold va_up upd
  by_cases h : k' = k
  · by_cases h2 : j = i.toNatClampNeg
    · rw [if_pos h, if_pos h2, if_pos ⟨h, h2⟩]
    · rw [if_pos h, if_neg h2, if_neg (fun q => h2 q.2), h]
  · rw [if_neg h, if_neg (fun q => h q.1)]
theorem rdA_i (u : g_S) (k : Nat) (i v : Int32) (j : Nat) : (g_sA u k i v).1 j = u.1 j := rfl
theorem rdI (u : g_S) (k : Nat) (v : Int32) (j : Nat) : (g_sI u k v).1 j = if j = k then v else u.1 j := rfl
theorem rdI_a (u : g_S) (k : Nat) (v : Int32) (k' j : Nat) : (g_sI u k v).2 k' j = u.2 k' j := rfl
theorem rdN (u : g_S) (k i : Nat) (v : Int32) (k' j : Nat) (hi : i < 2 ^ 31) : (g_sA u k (nI i) v).2 k' j = if k' = k ∧ j = i then v else u.2 k' j := by rw [rdA, nI_clamp hi]
theorem rdN_ne (u : g_S) (k i : Nat) (v : Int32) (k' j : Nat) (h : k' ≠ k) : (g_sA u k (nI i) v).2 k' j = u.2 k' j := by rw [rdA, if_neg (fun q => h q.1)]
theorem nI_rg {x : Int32} {m : Nat} (h0 : ¬ x < 0) (h1 : x < nI m) (hm : m < 2 ^ 31) : ∃ i, i < m ∧ x = nI i := by
  obtain ⟨i, hi, rfl⟩ := nI_of h0
  exact ⟨i, (nI_ltI hi hm).mp h1, rfl⟩
theorem nI_rgn {x : Int32} {m : Nat} (h0 : ¬ x < 0) (h1 : ¬ nI m ≤ x) (hm : m < 2 ^ 31) : ∃ i, i < m ∧ x = nI i := by
  obtain ⟨i, hi, rfl⟩ := nI_of h0
  exact ⟨i, Nat.lt_of_not_le (fun q => h1 ((nI_leI hm hi).mpr q)), rfl⟩
theorem nI_m1 {i : Nat} (h : i < 2 ^ 31) : ¬ nI i = -1 := fun q => absurd (show nI i < 0 by rw [q]; decide) (nI_pos h)
def okk {α : Type} (o : Option α) (Q : α → Prop) : Prop := ∃ r, o = some r ∧ Q r
theorem okk_some {α : Type} {r : α} {Q : α → Prop} (h : Q r) : okk (some r) Q := ⟨r, rfl, h⟩
theorem okk_ck {α : Type} {i : Int32} {n : Nat} {x : Option α} {Q : α → Prop} (h : vp_in i n) (k : okk x Q) : okk (ck i n x) Q := by rw [ck_in h]; exact k
theorem okk_gl {α β : Type} {x : α} {k : α → Option β} {Q : β → Prop} (h : ∀ y, y = x → okk (k y) Q) : okk (gl x k) Q := h x rfl
theorem okk_if {α : Type} {c : Prop} [Decidable c] {a b : Option α} {Q : α → Prop} (h1 : c → okk a Q) (h2 : ¬ c → okk b Q) : okk (if c then a else b) Q := by
  by_cases h : c
  · rw [if_pos h]; exact h1 h
  · rw [if_neg h]; exact h2 h
theorem okk_bi {α β : Type} {o : Option α} {k : α → Option β} {P : α → Prop} {Q : β → Prop} (h : okk o P) (hk : ∀ v, P v → okk (k v) Q) : okk (o.bind k) Q := by
  obtain ⟨v, hv, hp⟩ := h
  rw [bi_s hv]; exact hk v hp
theorem okk_mono {α : Type} {o : Option α} {P Q : α → Prop} (h : okk o P) (hi : ∀ r, P r → Q r) : okk o Q := by
  obtain ⟨v, hv, hp⟩ := h
  exact ⟨v, hv, hi v hp⟩
theorem vp_I {x : Int32} {n : Nat} (h0 : 0 ≤ x.toInt) (h1 : x.toInt < n) : vp_in x n := by
  rintro (h | h)
  · have := Int32.lt_iff_toInt_lt.mp h
    rw [show (0 : Int32).toInt = 0 from rfl] at this; omega
  · rw [← Int32.toNat_toInt] at h; omega
theorem cl_I {x : Int32} (h0 : 0 ≤ x.toInt) : (x.toNatClampNeg : Int) = x.toInt := by
  rw [← Int32.toNat_toInt]; omega
theorem oi_add {a b : Int32} {x y : Int} (ha : a.toInt = x) (hb : b.toInt = y) (h1 : -2147483648 ≤ x + y) (h2 : x + y ≤ 2147483647) : (a + b).toInt = x + y := by
  rw [Int32.toInt_add, ha, hb]; exact Int.bmod_eq_of_le_mul_two (by omega) (by omega)
theorem oi_sub {a b : Int32} {x y : Int} (ha : a.toInt = x) (hb : b.toInt = y) (h1 : -2147483648 ≤ x - y) (h2 : x - y ≤ 2147483647) : (a - b).toInt = x - y := by
  rw [Int32.toInt_sub, ha, hb]; exact Int.bmod_eq_of_le_mul_two (by omega) (by omega)
theorem oi_mul {a b : Int32} {x y : Int} (ha : a.toInt = x) (hb : b.toInt = y) (h1 : -2147483648 ≤ x * y) (h2 : x * y ≤ 2147483647) : (a * b).toInt = x * y := by
  rw [Int32.toInt_mul, ha, hb]; exact Int.bmod_eq_of_le_mul_two (by omega) (by omega)
theorem oi_ite {c : Prop} [Decidable c] {a b : Int32} : (if c then a else b).toInt = a.toInt ∨ (if c then a else b).toInt = b.toInt := by
  by_cases h : c
  · rw [if_pos h]; exact Or.inl rfl
  · rw [if_neg h]; exact Or.inr rfl
theorem oi_lo (x : Int32) : -2147483648 ≤ x.toInt := Int32.le_toInt x
theorem oi_hi (x : Int32) : x.toInt ≤ 2147483647 := Int.le_of_lt_add_one (Int32.toInt_lt x)
theorem okk_t {α : Type} {c : Prop} [Decidable c] {a b : Option α} {Q : α → Prop} (h : c) (k : okk a Q) : okk (if c then a else b) Q := by rw [if_pos h]; exact k
theorem okk_f {α : Type} {c : Prop} [Decidable c] {a b : Option α} {Q : α → Prop} (h : ¬ c) (k : okk b Q) : okk (if c then a else b) Q := by rw [if_neg h]; exact k
theorem okk_bs {α β : Type} {o : Option α} {v : α} {k : α → Option β} {Q : β → Prop} (h : o = some v) (hk : okk (k v) Q) : okk (o.bind k) Q := by rw [bi_s h]; exact hk
theorem okk_le {α : Type} {x y : Int32} {a b : Option α} {Q : α → Prop} (h1 : x ≤ y → x.toInt ≤ y.toInt → okk a Q) (h2 : ¬ x ≤ y → y.toInt < x.toInt → okk b Q) : okk (if x ≤ y then a else b) Q :=
  okk_if (fun h => h1 h (Int32.le_iff_toInt_le.mp h)) (fun h => h2 h (Int.lt_of_not_ge (fun q => h (Int32.le_iff_toInt_le.mpr q))))
theorem okk_lt {α : Type} {x y : Int32} {a b : Option α} {Q : α → Prop} (h1 : x < y → x.toInt < y.toInt → okk a Q) (h2 : ¬ x < y → y.toInt ≤ x.toInt → okk b Q) : okk (if x < y then a else b) Q :=
  okk_if (fun h => h1 h (Int32.lt_iff_toInt_lt.mp h)) (fun h => h2 h (Int.le_of_not_gt (fun q => h (Int32.lt_iff_toInt_lt.mpr q))))
theorem okk_eq {α : Type} {x y : Int32} {a b : Option α} {Q : α → Prop} (h1 : x = y → x.toInt = y.toInt → okk a Q) (h2 : ¬ x = y → ¬ x.toInt = y.toInt → okk b Q) : okk (if x = y then a else b) Q :=
  okk_if (fun h => h1 h (by rw [h])) (fun h => h2 h (fun q => h (Int32.toInt_inj.mp q)))
theorem okk_ne {α : Type} {x y : Int32} {a b : Option α} {Q : α → Prop} (h1 : ¬ x = y → ¬ x.toInt = y.toInt → okk a Q) (h2 : x = y → x.toInt = y.toInt → okk b Q) : okk (if ¬ x = y then a else b) Q :=
  okk_if (fun h => h1 h (fun q => h (Int32.toInt_inj.mp q))) (fun h => h2 (Classical.byContradiction h) (by rw [Classical.byContradiction h]))
end
section
def loC (k : Nat) : Int := match k with | 5 => 0 | 8 => 0 | 13 => 0 | 14 => -1 | 19 => -1 | 20 => -1 | 21 => 0 | 22 => 0 | _ => -2147483648
def hiC (k : Nat) : Int := match k with | 5 => 8 | 8 => 7 | 13 => 59 | 14 => 120 | 19 => 120 | 20 => 7 | 21 => 7 | 22 => 7 | _ => 2147483647
def FSc (u : g_S) : Prop := ∀ e : Nat, (¬ u.2 17 e = 3 ∨ (u.1 1).toInt ≤ e) → 0 ≤ (u.2 19 e).toInt
def IC (g : Nat → Int32) (u : g_S) : Prop := (0 ≤ (u.1 0).toInt ∧ (u.1 0).toInt ≤ 120 ∧ 0 ≤ (u.1 1).toInt ∧ (u.1 1).toInt ≤ 60) ∧ (∀ k j : Nat, loC k ≤ (u.2 k j).toInt ∧ (u.2 k j).toInt ≤ hiC k) ∧ FSc u ∧ ∀ j, u.2 5 j = g j
def rg_ok (lo hi : Nat → Int) (u : g_S) : Prop := ∀ k j : Nat, lo k ≤ (u.2 k j).toInt ∧ (u.2 k j).toInt ≤ hi k
section ICR
variable {g : Nat → Int32} {u : g_S}
theorem IC_s (I : IC g u) : 0 ≤ (u.1 0).toInt ∧ (u.1 0).toInt ≤ 120 ∧ 0 ≤ (u.1 1).toInt ∧ (u.1 1).toInt ≤ 60 := I.1
theorem IC_r (I : IC g u) (k j : Nat) : loC k ≤ (u.2 k j).toInt ∧ (u.2 k j).toInt ≤ hiC k := I.2.1 k j
theorem IC_f (I : IC g u) (e : Nat) (h : ¬ u.2 17 e = 3 ∨ (u.1 1).toInt ≤ e) : 0 ≤ (u.2 19 e).toInt := I.2.2.1 e h
theorem IC_g (I : IC g u) (j : Nat) : u.2 5 j = g j := I.2.2.2 j
theorem rg_w {lo hi : Nat → Int} (h : ∀ k j : Nat, lo k ≤ (u.2 k j).toInt ∧ (u.2 k j).toInt ≤ hi k) (k : Nat) (i v : Int32) (h1 : lo k ≤ v.toInt) (h2 : v.toInt ≤ hi k) : ∀ k' j : Nat, lo k' ≤ ((g_sA u k i v).2 k' j).toInt ∧ ((g_sA u k i v).2 k' j).toInt ≤ hi k' := fun k' j => by
  rw [rdA]
  by_cases q : k' = k ∧ j = i.toNatClampNeg
  · rw [if_pos q, q.1]; exact ⟨h1, h2⟩
  · rw [if_neg q]; exact h k' j
theorem eq_w (k : Nat) (i v : Int32) (k' j : Nat) (h : ¬ k' = k) : (g_sA u k i v).2 k' j = u.2 k' j := by rw [rdA, if_neg (fun q => h q.1)]
theorem IC_w (I : IC g u) (k : Nat) (i v : Int32) (h1 : loC k ≤ v.toInt) (h2 : v.toInt ≤ hiC k) (hk : ¬ 17 = k ∧ ¬ 19 = k ∧ ¬ 5 = k) : IC g (g_sA u k i v) :=
  ⟨I.1, rg_w I.2.1 k i v h1 h2, fun e h => by rw [eq_w k i v 19 e hk.2.1]; rw [eq_w k i v 17 e hk.1] at h; exact IC_f I e h, fun j => by rw [eq_w k i v 5 j hk.2.2]; exact IC_g I j⟩
theorem IC_wx (I : IC g u) (k : Nat) (i v : Int32) (h1 : loC k = -2147483648) (h2 : hiC k = 2147483647) (hk : ¬ 17 = k ∧ ¬ 19 = k ∧ ¬ 5 = k) : IC g (g_sA u k i v) :=
  IC_w I k i v (by rw [h1]; exact oi_lo v) (by rw [h2]; exact oi_hi v) hk
theorem IC_w17 (I : IC g u) (i v : Int32) (h : 0 ≤ (u.2 19 i.toNatClampNeg).toInt) : IC g (g_sA u 17 i v) :=
  ⟨I.1, rg_w I.2.1 17 i v (oi_lo v) (oi_hi v), fun e q => by
    rw [eq_w 17 i v 19 e (by decide)]; rw [rdA] at q
    by_cases z : e = i.toNatClampNeg
    · rw [z]; exact h
    · rw [if_neg (fun y => z y.2)] at q; exact IC_f I e q, fun j => by rw [eq_w 17 i v 5 j (by decide)]; exact IC_g I j⟩
theorem IC_w17m (I : IC g u) (i : Int32) (h : (i.toNatClampNeg : Int) < (u.1 1).toInt) : IC g (g_sA u 17 i 3) :=
  ⟨I.1, rg_w I.2.1 17 i 3 (oi_lo 3) (oi_hi 3), fun e q => by
    rw [eq_w 17 i 3 19 e (by decide)]; rw [rdA] at q
    by_cases z : e = i.toNatClampNeg
    · rw [if_pos ⟨rfl, z⟩] at q
      rcases q with q | q
      · exact absurd rfl q
      · rw [z, rdA_i] at q; omega
    · rw [if_neg (fun y => z y.2)] at q; exact IC_f I e q, fun j => by rw [eq_w 17 i 3 5 j (by decide)]; exact IC_g I j⟩
theorem IC_w19 (I : IC g u) (i v : Int32) (h1 : 0 ≤ v.toInt) (h2 : v.toInt ≤ 120) : IC g (g_sA u 19 i v) :=
  ⟨I.1, rg_w I.2.1 19 i v (Int.le_trans (by decide) h1) h2, fun e q => by
    rw [rdA]; rw [eq_w 19 i v 17 e (by decide)] at q
    by_cases z : 19 = 19 ∧ e = i.toNatClampNeg
    · rw [if_pos z]; exact h1
    · rw [if_neg z]; exact IC_f I e q, fun j => by rw [eq_w 19 i v 5 j (by decide)]; exact IC_g I j⟩
theorem IC_w19m (I : IC g u) (i v : Int32) (h1 : -1 ≤ v.toInt) (h2 : v.toInt ≤ 120) (h3 : u.2 17 i.toNatClampNeg = 3) (h : (i.toNatClampNeg : Int) < (u.1 1).toInt) : IC g (g_sA u 19 i v) :=
  ⟨I.1, rg_w I.2.1 19 i v h1 h2, fun e q => by
    rw [rdA]; rw [eq_w 19 i v 17 e (by decide), rdA_i] at q
    by_cases z : 19 = 19 ∧ e = i.toNatClampNeg
    · rw [z.2] at q
      rcases q with q | q
      · exact absurd h3 q
      · omega
    · rw [if_neg z]; exact IC_f I e q, fun j => by rw [eq_w 19 i v 5 j (by decide)]; exact IC_g I j⟩
theorem IC_w5 (I : IC g u) (i v : Int32) (h1 : 0 ≤ v.toInt) (h2 : v.toInt ≤ 8) : IC (upd g i.toNatClampNeg v) (g_sA u 5 i v) :=
  ⟨I.1, rg_w I.2.1 5 i v h1 h2, fun e q => by rw [eq_w 5 i v 19 e (by decide)]; rw [eq_w 5 i v 17 e (by decide)] at q; exact IC_f I e q, fun j => by
    rw [rdA]; unfold upd
    by_cases z : j = i.toNatClampNeg
    · rw [if_pos ⟨rfl, z⟩, if_pos z]
    · rw [if_neg (fun y => z y.2), if_neg z]; exact IC_g I j⟩
theorem IC_i0 (I : IC g u) (v : Int32) (h1 : 0 ≤ v.toInt) (h2 : v.toInt ≤ 120) : IC g (g_sI u 0 v) :=
  ⟨⟨h1, h2, I.1.2.2⟩, I.2.1, fun e q => IC_f I e q, I.2.2.2⟩
theorem IC_i1 (I : IC g u) (v : Int32) (h1 : (u.1 1).toInt ≤ v.toInt) (h2 : v.toInt ≤ 60) : IC g (g_sI u 1 v) :=
  ⟨⟨I.1.1, I.1.2.1, Int.le_trans I.1.2.2.1 h1, h2⟩, I.2.1, fun e q => IC_f I e (q.imp id (fun z => Int.le_trans h1 z)), I.2.2.2⟩
end ICR
def loM (k : Nat) : Int := match k with | 5 => 0 | 8 => 0 | 12 => 0 | 13 => -1 | 17 => -1 | 18 => 0 | 19 => 0 | _ => -2147483648
def hiM (k : Nat) : Int := match k with | 5 => 8 | 8 => 7 | 12 => 59 | 13 => 119 | 17 => 7 | 18 => 7 | 19 => 7 | _ => 2147483647
def FWm (u : g_S) : Prop := (∀ e : Nat, (e : Int) < (u.1 2).toInt → ¬ u.2 16 e = 3 → ∃ c : Nat, (c : Int) < (u.1 1).toInt ∧ (u.2 12 c).toInt = e ∧ (u.2 13 c).toInt < 0) ∧ ∀ c : Nat, (c : Int) < (u.1 1).toInt → (u.2 12 c).toInt < (u.1 2).toInt
def IM (g : Nat → Int32) (u : g_S) : Prop := (0 ≤ (u.1 1).toInt ∧ (u.1 1).toInt ≤ 120 ∧ 0 ≤ (u.1 2).toInt ∧ (u.1 2).toInt ≤ 60) ∧ (∀ k j : Nat, loM k ≤ (u.2 k j).toInt ∧ (u.2 k j).toInt ≤ hiM k) ∧ FWm u ∧ ∀ j, u.2 5 j = g j
section IMR
variable {g : Nat → Int32} {u : g_S}
theorem IM_s (I : IM g u) : 0 ≤ (u.1 1).toInt ∧ (u.1 1).toInt ≤ 120 ∧ 0 ≤ (u.1 2).toInt ∧ (u.1 2).toInt ≤ 60 := I.1
theorem IM_r (I : IM g u) (k j : Nat) : loM k ≤ (u.2 k j).toInt ∧ (u.2 k j).toInt ≤ hiM k := I.2.1 k j
theorem IM_f (I : IM g u) (e : Nat) (he : (e : Int) < (u.1 2).toInt) (h : ¬ u.2 16 e = 3) : ∃ c : Nat, (c : Int) < (u.1 1).toInt ∧ (u.2 12 c).toInt = e ∧ (u.2 13 c).toInt < 0 := I.2.2.1.1 e he h
theorem IM_e (I : IM g u) (c : Nat) (h : (c : Int) < (u.1 1).toInt) : (u.2 12 c).toInt < (u.1 2).toInt := I.2.2.1.2 c h
theorem IM_g (I : IM g u) (j : Nat) : u.2 5 j = g j := I.2.2.2 j
theorem IM_mk (I : IM g u) (k : Nat) (i v : Int32) (h1 : loM k ≤ v.toInt) (h2 : v.toInt ≤ hiM k) (h5 : ¬ 5 = k)
    (hs : ∀ e : Nat, (e : Int) < (u.1 2).toInt → ¬ (g_sA u k i v).2 16 e = 3 → ¬ u.2 16 e = 3)
    (hw : ∀ c : Nat, (c : Int) < (u.1 1).toInt → (u.2 13 c).toInt < 0 → (g_sA u k i v).2 12 c = u.2 12 c ∧ ((g_sA u k i v).2 13 c).toInt < 0)
    (he : ∀ c : Nat, (c : Int) < (u.1 1).toInt → ((g_sA u k i v).2 12 c).toInt < (u.1 2).toInt) : IM g (g_sA u k i v) := by
  refine ⟨I.1, rg_w I.2.1 k i v h1 h2, ⟨fun e q z => ?_, fun c q => he c q⟩, fun j => by rw [eq_w k i v 5 j h5]; exact IM_g I j⟩
  obtain ⟨c, a1, a2, a3⟩ := IM_f I e q (hs e q z)
  obtain ⟨b1, b2⟩ := hw c a1 a3
  exact ⟨c, a1, by rw [b1]; exact a2, b2⟩
theorem IM_w (I : IM g u) (k : Nat) (i v : Int32) (h1 : loM k ≤ v.toInt) (h2 : v.toInt ≤ hiM k) (hk : ¬ 16 = k ∧ ¬ 12 = k ∧ ¬ 13 = k ∧ ¬ 5 = k) : IM g (g_sA u k i v) :=
  IM_mk I k i v h1 h2 hk.2.2.2 (fun e _ z => by rw [eq_w k i v 16 e hk.1] at z; exact z) (fun c _ z => ⟨eq_w k i v 12 c hk.2.1, by rw [eq_w k i v 13 c hk.2.2.1]; exact z⟩) (fun c z => by rw [eq_w k i v 12 c hk.2.1]; exact IM_e I c z)
theorem IM_wx (I : IM g u) (k : Nat) (i v : Int32) (h1 : loM k = -2147483648) (h2 : hiM k = 2147483647) (hk : ¬ 16 = k ∧ ¬ 12 = k ∧ ¬ 13 = k ∧ ¬ 5 = k) : IM g (g_sA u k i v) :=
  IM_w I k i v (by rw [h1]; exact oi_lo v) (by rw [h2]; exact oi_hi v) hk
theorem IM_w16 (I : IM g u) (i v : Int32) (h : v = 3 ∨ ¬ u.2 16 i.toNatClampNeg = 3) : IM g (g_sA u 16 i v) := by
  refine IM_mk I 16 i v (oi_lo v) (oi_hi v) (by decide) (fun e he q => ?_) (fun c _ z => ⟨eq_w 16 i v 12 c (by decide), by rw [eq_w 16 i v 13 c (by decide)]; exact z⟩) (fun c z => by rw [eq_w 16 i v 12 c (by decide)]; exact IM_e I c z)
  rw [rdA] at q
  by_cases z : e = i.toNatClampNeg
  · rw [if_pos ⟨rfl, z⟩] at q
    rcases h with h | h
    · exact absurd h q
    · rw [z]; exact h
  · rw [if_neg (fun y => z y.2)] at q; exact q
theorem IM_w16b (I : IM g u) (i v : Int32) (h : (u.1 2).toInt ≤ (i.toNatClampNeg : Int)) : IM g (g_sA u 16 i v) := by
  refine IM_mk I 16 i v (oi_lo v) (oi_hi v) (by decide) (fun e he q => ?_) (fun c _ z => ⟨eq_w 16 i v 12 c (by decide), by rw [eq_w 16 i v 13 c (by decide)]; exact z⟩) (fun c z => by rw [eq_w 16 i v 12 c (by decide)]; exact IM_e I c z)
  rw [rdA, if_neg (fun y => by have := y.2; omega)] at q; exact q
theorem IM_w13b (I : IM g u) (i v : Int32) (h1 : -1 ≤ v.toInt) (h2 : v.toInt ≤ 119) (h : (u.1 1).toInt ≤ (i.toNatClampNeg : Int)) : IM g (g_sA u 13 i v) := by
  refine IM_mk I 13 i v h1 h2 (by decide) (fun e _ q => by rw [eq_w 13 i v 16 e (by decide)] at q; exact q) (fun c hc z => ⟨eq_w 13 i v 12 c (by decide), ?_⟩) (fun c z => by rw [eq_w 13 i v 12 c (by decide)]; exact IM_e I c z)
  rw [rdA, if_neg (fun y => by have := y.2; omega)]; exact z
theorem IM_w12b (I : IM g u) (i v : Int32) (h1 : 0 ≤ v.toInt) (h2 : v.toInt ≤ 59) (h : (u.1 1).toInt ≤ (i.toNatClampNeg : Int)) : IM g (g_sA u 12 i v) := by
  have k : ∀ c : Nat, (c : Int) < (u.1 1).toInt → (g_sA u 12 i v).2 12 c = u.2 12 c := fun c hc => by rw [rdA, if_neg (fun y => by have := y.2; omega)]
  exact IM_mk I 12 i v h1 h2 (by decide) (fun e _ q => by rw [eq_w 12 i v 16 e (by decide)] at q; exact q) (fun c hc z => ⟨k c hc, by rw [eq_w 12 i v 13 c (by decide)]; exact z⟩) (fun c z => by rw [k c z]; exact IM_e I c z)
theorem IM_w12c (I : IM g u) (i v : Int32) (h1 : 0 ≤ v.toInt) (h2 : v.toInt ≤ 59) (h3 : v.toInt < (u.1 2).toInt) (h : 0 ≤ (u.2 13 i.toNatClampNeg).toInt) : IM g (g_sA u 12 i v) := by
  refine IM_mk I 12 i v h1 h2 (by decide) (fun e _ q => by rw [eq_w 12 i v 16 e (by decide)] at q; exact q) (fun c hc z => ⟨?_, by rw [eq_w 12 i v 13 c (by decide)]; exact z⟩) (fun c z => ?_)
  · rw [rdA, if_neg (fun y => by rw [y.2] at z; omega)]
  · rw [rdA]
    by_cases y : 12 = 12 ∧ c = i.toNatClampNeg
    · rw [if_pos y]; exact h3
    · rw [if_neg y]; exact IM_e I c z
theorem IM_w5 (I : IM g u) (i v : Int32) (h1 : 0 ≤ v.toInt) (h2 : v.toInt ≤ 8) : IM (upd g i.toNatClampNeg v) (g_sA u 5 i v) := by
  refine ⟨I.1, rg_w I.2.1 5 i v h1 h2, ⟨fun e he q => ?_, fun c q => ?_⟩, fun j => ?_⟩
  · rw [eq_w 5 i v 16 e (by decide)] at q
    obtain ⟨c, a1, a2, a3⟩ := IM_f I e he q
    exact ⟨c, a1, by rw [eq_w 5 i v 12 c (by decide)]; exact a2, by rw [eq_w 5 i v 13 c (by decide)]; exact a3⟩
  · rw [eq_w 5 i v 12 c (by decide)]; exact IM_e I c q
  · rw [rdA]; unfold upd
    by_cases z : j = i.toNatClampNeg
    · rw [if_pos ⟨rfl, z⟩, if_pos z]
    · rw [if_neg (fun y => z y.2), if_neg z]; exact IM_g I j
theorem IM_ix (I : IM g u) {k : Nat} (v : Int32) (hk : ¬ 1 = k ∧ ¬ 2 = k) : IM g (g_sI u k v) := by
  have e1 : (g_sI u k v).1 1 = u.1 1 := by rw [rdI, if_neg hk.1]
  have e2 : (g_sI u k v).1 2 = u.1 2 := by rw [rdI, if_neg hk.2]
  refine ⟨by rw [e1, e2]; exact I.1, I.2.1, ⟨fun e he q => ?_, fun c q => ?_⟩, I.2.2.2⟩
  · rw [e2] at he
    obtain ⟨c, a1, a2, a3⟩ := IM_f I e he q
    exact ⟨c, by rw [e1]; exact a1, a2, a3⟩
  · rw [e1] at q; rw [e2]; exact IM_e I c q
theorem IM_i1u (I : IM g u) (v : Int32) (h1 : v.toInt = (u.1 1).toInt + 1) (h2 : (u.1 1).toInt ≤ 119) (h3 : ∀ c : Nat, (c : Int) = (u.1 1).toInt → (u.2 12 c).toInt < (u.1 2).toInt) : IM g (g_sI u 1 v) := by
  have hs := IM_s I
  have e1 : ((g_sI u 1 v).1 1).toInt = (u.1 1).toInt + 1 := h1
  refine ⟨⟨by omega, by omega, hs.2.2.1, hs.2.2.2⟩, I.2.1, ⟨fun e he q => ?_, fun c q => ?_⟩, I.2.2.2⟩
  · obtain ⟨c, a1, a2, a3⟩ := IM_f I e he q
    exact ⟨c, by omega, a2, a3⟩
  · by_cases z : (c : Int) = (u.1 1).toInt
    · exact h3 c z
    · exact IM_e I c (by omega)
end IMR
theorem okk_isBelow {α : Type} {a b : Int32} {k : Int32 → Option α} {Q : α → Prop} (h1 : 0 ≤ a.toInt ∧ a.toInt < b.toInt → okk (k 1) Q) (h2 : a.toInt < 0 ∨ b.toInt ≤ a.toInt → okk (k 0) Q) : okk ((fcJ_isBelow a b).bind k) Q := by
  have z : (0 : Int32).toInt = 0 := by decide
  unfold fcJ_isBelow
  by_cases c1 : a < 0
  · rw [if_pos c1]; exact h2 (Or.inl (by have := Int32.lt_iff_toInt_lt.mp c1; omega))
  · rw [if_neg c1]
    by_cases c2 : b ≤ a
    · rw [if_pos c2]; exact h2 (Or.inr (Int32.le_iff_toInt_le.mp c2))
    · rw [if_neg c2]
      refine h1 ⟨?_, ?_⟩
      · have := mt Int32.lt_iff_toInt_lt.mpr c1; omega
      · have := mt Int32.le_iff_toInt_le.mpr c2; omega
theorem fm_in_1 {a b c : Int32} (h : b.toInt ≤ a.toInt ∧ a.toInt ≤ c.toInt) : fm_in a b c = some 1 := by
  unfold fm_in
  rw [if_neg (fun q => by have := Int32.lt_iff_toInt_lt.mp q; omega), if_neg (fun q => by have := Int32.lt_iff_toInt_lt.mp q; omega)]
theorem fm_in_0 {a b c : Int32} (h : ¬ (b.toInt ≤ a.toInt ∧ a.toInt ≤ c.toInt)) : fm_in a b c = some 0 := by
  unfold fm_in
  by_cases c1 : a < b
  · rw [if_pos c1]
  · rw [if_neg c1, if_pos (Int32.lt_iff_toInt_lt.mpr (by have := mt Int32.lt_iff_toInt_lt.mpr c1; omega))]
theorem okk_in {α : Type} {a b c : Int32} {k : Int32 → Option α} {Q : α → Prop} (h1 : b.toInt ≤ a.toInt ∧ a.toInt ≤ c.toInt → okk (k 1) Q) (h2 : a.toInt < b.toInt ∨ c.toInt < a.toInt → okk (k 0) Q) : okk ((fm_in a b c).bind k) Q := by
  by_cases h : b.toInt ≤ a.toInt ∧ a.toInt ≤ c.toInt
  · rw [fm_in_1 h]; exact h1 h
  · rw [fm_in_0 h]; exact h2 (by omega)
theorem okk_inB {α : Type} {o : Option Int32} {a b c : Int32} {k : Int32 → Option α} {Q : α → Prop} (e : o = (fm_in a b c).bind fun v1 => if v1 = 0 ∨ v1 = 1 then some v1 else none) (h1 : b.toInt ≤ a.toInt ∧ a.toInt ≤ c.toInt → okk (k 1) Q) (h2 : a.toInt < b.toInt ∨ c.toInt < a.toInt → okk (k 0) Q) : okk (o.bind k) Q := by
  rw [e]
  by_cases h : b.toInt ≤ a.toInt ∧ a.toInt ≤ c.toInt
  · rw [fm_in_1 h]; exact h1 h
  · rw [fm_in_0 h]; exact h2 (by omega)
theorem okk_isKind {α : Type} {a : Int32} {k : Int32 → Option α} {Q : α → Prop} (h1 : 0 ≤ a.toInt ∧ a.toInt ≤ 7 → okk (k 1) Q) (h2 : a.toInt < 0 ∨ 7 < a.toInt → okk (k 0) Q) : okk ((fm_isKind a).bind k) Q := okk_inB (o := fm_isKind a) rfl h1 h2
theorem okk_isRoad {α : Type} {a : Int32} {k : Int32 → Option α} {Q : α → Prop} (h1 : 0 ≤ a.toInt ∧ a.toInt ≤ 7 → okk (k 1) Q) (h2 : a.toInt < 0 ∨ 7 < a.toInt → okk (k 0) Q) : okk ((fm_isRoad a).bind k) Q := okk_inB (o := fm_isRoad a) rfl h1 h2
theorem okk_isPoint {α : Type} {a : Int32} {k : Int32 → Option α} {Q : α → Prop} (h1 : 0 ≤ a.toInt ∧ a.toInt ≤ 99999999 → okk (k 1) Q) (h2 : a.toInt < 0 ∨ 99999999 < a.toInt → okk (k 0) Q) : okk ((fm_isPoint a).bind k) Q := okk_inB (o := fm_isPoint a) rfl h1 h2
theorem okk_isCall {α : Type} {u : g_S} {a : Int32} {k : Int32 → Option α} {Q : α → Prop} (h1 : 0 ≤ a.toInt ∧ a.toInt ≤ ((u.1 1) - (1 : Int32)).toInt → okk (k 1) Q) (h2 : a.toInt < 0 ∨ ((u.1 1) - (1 : Int32)).toInt < a.toInt → okk (k 0) Q) : okk ((fm_isCall u a).bind k) Q := okk_inB (o := fm_isCall u a) rfl h1 h2
theorem okk_isEvent {α : Type} {u : g_S} {a : Int32} {k : Int32 → Option α} {Q : α → Prop} (h1 : 0 ≤ a.toInt ∧ a.toInt ≤ ((u.1 2) - (1 : Int32)).toInt → okk (k 1) Q) (h2 : a.toInt < 0 ∨ ((u.1 2) - (1 : Int32)).toInt < a.toInt → okk (k 0) Q) : okk ((fm_isEvent u a).bind k) Q := okk_inB (o := fm_isEvent u a) rfl h1 h2
theorem fm_t26 (u : g_S) (y : Int32) : fm_throwing_26 u y = if y ≤ 0 then some ((0 : Int32), g_sI u 0 y) else some ((1 : Int32), g_sI u 0 y) := rfl
theorem fm_t26a (u : g_S) (y : Int32) (h : ¬ y ≤ 0) : fm_throwing_26 u y = some ((1 : Int32), g_sI u 0 y) := by rw [fm_t26, if_neg h]
theorem fm_t26b (u : g_S) (y : Int32) (h : y ≤ 0) : fm_throwing_26 u y = some ((0 : Int32), g_sI u 0 y) := by rw [fm_t26, if_pos h]
theorem fm_thr_1 (u : g_S) (y z : Int32) : fm_throwing u 1 y z = some ((1 : Int32), g_sI u 0 1) := by unfold fm_throwing; rw [if_neg (by decide)]; exact fm_t26a u 1 (by decide)
theorem fm_thr_2 (u : g_S) (z : Int32) : fm_throwing u 0 1 z = some ((1 : Int32), g_sI u 0 2) := by unfold fm_throwing; rw [if_pos rfl, if_neg (by decide)]; exact fm_t26a u 2 (by decide)
theorem fm_thr_3 (u : g_S) : fm_throwing u 0 0 1 = some ((1 : Int32), g_sI u 0 3) := by unfold fm_throwing; rw [if_pos rfl, if_pos rfl, if_neg (by decide)]; exact fm_t26a u 3 (by decide)
theorem fm_thr_0 (u : g_S) : fm_throwing u 0 0 0 = some ((0 : Int32), g_sI u 0 0) := by unfold fm_throwing; rw [if_pos rfl, if_pos rfl, if_pos rfl]; exact fm_t26b u 0 (by decide)
end
section
theorem IC_r5 {g : Nat → Int32} {u : g_S} (I : IC g u) (j : Nat) : 0 ≤ (u.2 5 j).toInt ∧ (u.2 5 j).toInt ≤ 8 := IC_r I 5 j
theorem IC_r8 {g : Nat → Int32} {u : g_S} (I : IC g u) (j : Nat) : 0 ≤ (u.2 8 j).toInt ∧ (u.2 8 j).toInt ≤ 7 := IC_r I 8 j
theorem IC_v8 {g : Nat → Int32} {u : g_S} (I : IC g u) (i v : Int32) (h1 : 0 ≤ v.toInt) (h2 : v.toInt ≤ 7) : IC g (g_sA u 8 i v) := IC_w I 8 i v h1 h2 (by decide)
theorem IC_r13 {g : Nat → Int32} {u : g_S} (I : IC g u) (j : Nat) : 0 ≤ (u.2 13 j).toInt ∧ (u.2 13 j).toInt ≤ 59 := IC_r I 13 j
theorem IC_v13 {g : Nat → Int32} {u : g_S} (I : IC g u) (i v : Int32) (h1 : 0 ≤ v.toInt) (h2 : v.toInt ≤ 59) : IC g (g_sA u 13 i v) := IC_w I 13 i v h1 h2 (by decide)
theorem IC_r14 {g : Nat → Int32} {u : g_S} (I : IC g u) (j : Nat) : -1 ≤ (u.2 14 j).toInt ∧ (u.2 14 j).toInt ≤ 120 := IC_r I 14 j
theorem IC_v14 {g : Nat → Int32} {u : g_S} (I : IC g u) (i v : Int32) (h1 : -1 ≤ v.toInt) (h2 : v.toInt ≤ 120) : IC g (g_sA u 14 i v) := IC_w I 14 i v h1 h2 (by decide)
theorem IC_r19 {g : Nat → Int32} {u : g_S} (I : IC g u) (j : Nat) : -1 ≤ (u.2 19 j).toInt ∧ (u.2 19 j).toInt ≤ 120 := IC_r I 19 j
theorem IC_r20 {g : Nat → Int32} {u : g_S} (I : IC g u) (j : Nat) : -1 ≤ (u.2 20 j).toInt ∧ (u.2 20 j).toInt ≤ 7 := IC_r I 20 j
theorem IC_v20 {g : Nat → Int32} {u : g_S} (I : IC g u) (i v : Int32) (h1 : -1 ≤ v.toInt) (h2 : v.toInt ≤ 7) : IC g (g_sA u 20 i v) := IC_w I 20 i v h1 h2 (by decide)
theorem IC_r21 {g : Nat → Int32} {u : g_S} (I : IC g u) (j : Nat) : 0 ≤ (u.2 21 j).toInt ∧ (u.2 21 j).toInt ≤ 7 := IC_r I 21 j
theorem IC_v21 {g : Nat → Int32} {u : g_S} (I : IC g u) (i v : Int32) (h1 : 0 ≤ v.toInt) (h2 : v.toInt ≤ 7) : IC g (g_sA u 21 i v) := IC_w I 21 i v h1 h2 (by decide)
theorem IC_r22 {g : Nat → Int32} {u : g_S} (I : IC g u) (j : Nat) : 0 ≤ (u.2 22 j).toInt ∧ (u.2 22 j).toInt ≤ 7 := IC_r I 22 j
theorem IC_v22 {g : Nat → Int32} {u : g_S} (I : IC g u) (i v : Int32) (h1 : 0 ≤ v.toInt) (h2 : v.toInt ≤ 7) : IC g (g_sA u 22 i v) := IC_w I 22 i v h1 h2 (by decide)
theorem IM_r5 {g : Nat → Int32} {u : g_S} (I : IM g u) (j : Nat) : 0 ≤ (u.2 5 j).toInt ∧ (u.2 5 j).toInt ≤ 8 := IM_r I 5 j
theorem IM_r8 {g : Nat → Int32} {u : g_S} (I : IM g u) (j : Nat) : 0 ≤ (u.2 8 j).toInt ∧ (u.2 8 j).toInt ≤ 7 := IM_r I 8 j
theorem IM_v8 {g : Nat → Int32} {u : g_S} (I : IM g u) (i v : Int32) (h1 : 0 ≤ v.toInt) (h2 : v.toInt ≤ 7) : IM g (g_sA u 8 i v) := IM_w I 8 i v h1 h2 (by decide)
theorem IM_r12 {g : Nat → Int32} {u : g_S} (I : IM g u) (j : Nat) : 0 ≤ (u.2 12 j).toInt ∧ (u.2 12 j).toInt ≤ 59 := IM_r I 12 j
theorem IM_r13 {g : Nat → Int32} {u : g_S} (I : IM g u) (j : Nat) : -1 ≤ (u.2 13 j).toInt ∧ (u.2 13 j).toInt ≤ 119 := IM_r I 13 j
theorem IM_r17 {g : Nat → Int32} {u : g_S} (I : IM g u) (j : Nat) : -1 ≤ (u.2 17 j).toInt ∧ (u.2 17 j).toInt ≤ 7 := IM_r I 17 j
theorem IM_v17 {g : Nat → Int32} {u : g_S} (I : IM g u) (i v : Int32) (h1 : -1 ≤ v.toInt) (h2 : v.toInt ≤ 7) : IM g (g_sA u 17 i v) := IM_w I 17 i v h1 h2 (by decide)
theorem IM_r18 {g : Nat → Int32} {u : g_S} (I : IM g u) (j : Nat) : 0 ≤ (u.2 18 j).toInt ∧ (u.2 18 j).toInt ≤ 7 := IM_r I 18 j
theorem IM_v18 {g : Nat → Int32} {u : g_S} (I : IM g u) (i v : Int32) (h1 : 0 ≤ v.toInt) (h2 : v.toInt ≤ 7) : IM g (g_sA u 18 i v) := IM_w I 18 i v h1 h2 (by decide)
theorem IM_r19 {g : Nat → Int32} {u : g_S} (I : IM g u) (j : Nat) : 0 ≤ (u.2 19 j).toInt ∧ (u.2 19 j).toInt ≤ 7 := IM_r I 19 j
theorem IM_v19 {g : Nat → Int32} {u : g_S} (I : IM g u) (i v : Int32) (h1 : 0 ≤ v.toInt) (h2 : v.toInt ≤ 7) : IM g (g_sA u 19 i v) := IM_w I 19 i v h1 h2 (by decide)
end
section
set_option maxHeartbeats 4000000 in
theorem okk_fcA_draft {g : Nat → Int32} {u : g_S} (I : IC g u) {p1 : Int32} {p2 : Int32} {p3 : Int32} {p4 : Int32} {p5 : Int32} {p6 : Int32} (h0 : 0 ≤ p2.toInt) (h1 : p2.toInt ≤ 7) : okk (fcA_draft u p1 p2 p3 p4 p5 p6) (fun r => IC g r.2 ∧ (r.1.toInt = (u.1 0).toInt) ∧ ((r.2.1 0).toInt = (u.1 0).toInt) ∧ ((r.2.1 1).toInt = (u.1 1).toInt)) := by
  unfold fcA_draft
  have z1_ := IC_s I
  refine okk_ck (vp_I (by omega) (by omega)) ?_
  refine okk_gl (fun u12_ eu12_ => ?_)
  have Iu12_ : IC g u12_ := by rw [eu12_]; exact IC_wx I 7 _ _ rfl rfl (by decide)
  have z3_ : (u12_.1 0).toInt = (u.1 0).toInt := by rw [eu12_]; rfl
  have z4_ : (u12_.1 1).toInt = (u.1 1).toInt := by rw [eu12_]; rfl
  refine okk_ck (vp_I (by omega) (by omega)) ?_
  refine okk_gl (fun u25_ eu25_ => ?_)
  have Iu25_ : IC g u25_ := by rw [eu25_]; exact IC_v8 Iu12_ _ _ (by omega) (by omega)
  have z6_ : (u25_.1 0).toInt = (u12_.1 0).toInt := by rw [eu25_]; rfl
  have z7_ : (u25_.1 1).toInt = (u12_.1 1).toInt := by rw [eu25_]; rfl
  refine okk_ck (vp_I (by omega) (by omega)) ?_
  refine okk_gl (fun u38_ eu38_ => ?_)
  have Iu38_ : IC g u38_ := by rw [eu38_]; exact IC_wx Iu25_ 9 _ _ rfl rfl (by decide)
  have z9_ : (u38_.1 0).toInt = (u25_.1 0).toInt := by rw [eu38_]; rfl
  have z10_ : (u38_.1 1).toInt = (u25_.1 1).toInt := by rw [eu38_]; rfl
  refine okk_ck (vp_I (by omega) (by omega)) ?_
  refine okk_gl (fun u411_ eu411_ => ?_)
  have Iu411_ : IC g u411_ := by rw [eu411_]; exact IC_wx Iu38_ 10 _ _ rfl rfl (by decide)
  have z12_ : (u411_.1 0).toInt = (u38_.1 0).toInt := by rw [eu411_]; rfl
  have z13_ : (u411_.1 1).toInt = (u38_.1 1).toInt := by rw [eu411_]; rfl
  refine okk_ck (vp_I (by omega) (by omega)) ?_
  refine okk_gl (fun u514_ eu514_ => ?_)
  have Iu514_ : IC g u514_ := by rw [eu514_]; exact IC_wx Iu411_ 11 _ _ rfl rfl (by decide)
  have z15_ : (u514_.1 0).toInt = (u411_.1 0).toInt := by rw [eu514_]; rfl
  have z16_ : (u514_.1 1).toInt = (u411_.1 1).toInt := by rw [eu514_]; rfl
  refine okk_ck (vp_I (by omega) (by omega)) ?_
  refine okk_gl (fun u617_ eu617_ => ?_)
  have Iu617_ : IC g u617_ := by rw [eu617_]; exact IC_wx Iu514_ 12 _ _ rfl rfl (by decide)
  have z18_ : (u617_.1 0).toInt = (u514_.1 0).toInt := by rw [eu617_]; rfl
  have z19_ : (u617_.1 1).toInt = (u514_.1 1).toInt := by rw [eu617_]; rfl
  refine okk_ck (vp_I (by omega) (by omega)) ?_
  have t21_ : (-1 : Int32).toInt = (-1 : Int) := (by decide : (-1 : Int32).toInt = -1)
  refine okk_gl (fun u720_ eu720_ => ?_)
  have Iu720_ : IC g u720_ := by rw [eu720_]; exact IC_v14 Iu617_ _ _ (by omega) (by omega)
  have z22_ : (u720_.1 0).toInt = (u617_.1 0).toInt := by rw [eu720_]; rfl
  have z23_ : (u720_.1 1).toInt = (u617_.1 1).toInt := by rw [eu720_]; rfl
  refine okk_ck (vp_I (by omega) (by omega)) ?_
  have t25_ : (0 : Int32).toInt = (0 : Int) := (by decide : (0 : Int32).toInt = 0)
  refine okk_gl (fun u824_ eu824_ => ?_)
  have Iu824_ : IC g u824_ := by rw [eu824_]; exact IC_wx Iu720_ 15 _ _ rfl rfl (by decide)
  have z26_ : (u824_.1 0).toInt = (u720_.1 0).toInt := by rw [eu824_]; rfl
  have z27_ : (u824_.1 1).toInt = (u720_.1 1).toInt := by rw [eu824_]; rfl
  refine okk_ck (vp_I (by omega) (by omega)) ?_
  refine okk_gl (fun u928_ eu928_ => ?_)
  have Iu928_ : IC g u928_ := by rw [eu928_]; exact IC_wx Iu824_ 16 _ _ rfl rfl (by decide)
  have z29_ : (u928_.1 0).toInt = (u824_.1 0).toInt := by rw [eu928_]; rfl
  have z30_ : (u928_.1 1).toInt = (u824_.1 1).toInt := by rw [eu928_]; rfl
  exact okk_some (⟨Iu928_, (by show (u928_.1 0).toInt = (u.1 0).toInt; omega), (by show (u928_.1 0).toInt = (u.1 0).toInt; omega), (by show (u928_.1 1).toInt = (u.1 1).toInt; omega)⟩)
set_option maxHeartbeats 4000000 in
theorem okk_fcA_latestTime {g : Nat → Int32} {u : g_S} (I : IC g u) : okk (fcA_latestTime u) (fun r => True) := by
  unfold fcA_latestTime
  have z1_ := IC_s I
  try have t3_ : (0 : Int32).toInt = (0 : Int) := (by decide : (0 : Int32).toInt = 0)
  refine okk_ne (fun c2_ c2_I => ?_) (fun c2_ c2_I => ?_)
  · have t4_ : ((u.1 0) - (1 : Int32)).toInt = ((u.1 0).toInt - (1 : Int)) := (oi_sub (a := (u.1 0)) (b := (1 : Int32)) rfl (by decide : (1 : Int32).toInt = 1) (by omega) (by omega))
    refine okk_ck (vp_I (by omega) (by omega)) ?_
    exact okk_some (trivial)
  · exact okk_some (trivial)
set_option maxHeartbeats 4000000 in
theorem okk_fcA_isHoax {g : Nat → Int32} {u : g_S} (I : IC g u) {p1 : Int32} (h0 : 0 ≤ p1.toInt) (h1 : p1.toInt ≤ 120) : okk (fcA_isHoax u p1) (fun r => True) := by
  unfold fcA_isHoax
  have z1_ := IC_s I
  refine okk_ck (vp_I (by omega) (by omega)) ?_
  try have t3_ : (0 : Int32).toInt = (0 : Int) := (by decide : (0 : Int32).toInt = 0)
  refine okk_eq (fun c2_ c2_I => ?_) (fun c2_ c2_I => ?_)
  · exact okk_some (trivial)
  · exact okk_some (trivial)
set_option maxHeartbeats 4000000 in
theorem okk_fcA_isUnder_5 {g : Nat → Int32} {u : g_S} (I : IC g u) : ∀ (n : Nat) (x2 : Int32) (x3 : Int32) (x4 : Int32), 0 ≤ x4.toInt → x4.toInt ≤ 120 → -1 ≤ x3.toInt → x3.toInt ≤ 120 → 121 ≤ (n : Int) + x4.toInt → okk (fcA_isUnder_5 u n x2 x3 x4) (fun r => True) := by
  intro n
  induction n with
  | zero =>
    intro x2 x3 x4 h0 h1 h2 h3 hf
    exfalso; omega
  | succ n ih =>
    intro x2 x3 x4 h0 h1 h2 h3 hf
    rw [fcA_isUnder_5_s]
    have z1_ := IC_s I
    try have t3_ : (120 : Int32).toInt = (120 : Int) := (by decide : (120 : Int32).toInt = 120)
    refine okk_le (fun c2_ c2_I => ?_) (fun c2_ c2_I => ?_)
    · exact okk_some (trivial)
    · try have t5_ : (-1 : Int32).toInt = (-1 : Int) := (by decide : (-1 : Int32).toInt = -1)
      refine okk_eq (fun c4_ c4_I => ?_) (fun c4_ c4_I => ?_)
      · exact okk_some (trivial)
      · refine okk_ne (fun c6_ c6_I => ?_) (fun c6_ c6_I => ?_)
        · refine okk_ck (vp_I (by omega) (by omega)) ?_
          have r8_ := IC_r14 I x3.toNatClampNeg
          refine okk_gl (fun w17_ ew17_ => ?_)
          have t9_ : w17_.toInt = (u.2 14 x3.toNatClampNeg).toInt := by rw [ew17_]
          have t10_ : (x4 + (1 : Int32)).toInt = (x4.toInt + (1 : Int)) := (oi_add (a := x4) (b := (1 : Int32)) rfl (by decide : (1 : Int32).toInt = 1) (by omega) (by omega))
          exact ih x2 w17_ (x4 + (1 : Int32)) (by omega) (by omega) (by omega) (by omega) (by omega)
        · exact okk_some (trivial)
set_option maxHeartbeats 4000000 in
theorem okk_fcA_isUnder {g : Nat → Int32} {u : g_S} (I : IC g u) {p1 : Int32} {p2 : Int32} (h0 : 0 ≤ p1.toInt) (h1 : p1.toInt ≤ 120) : okk (fcA_isUnder u p1 p2) (fun r => True) := by
  unfold fcA_isUnder
  have z1_ := IC_s I
  have t2_ : (0 : Int32).toInt = (0 : Int) := (by decide : (0 : Int32).toInt = 0)
  exact okk_fcA_isUnder_5 I 200 p2 p1 (0 : Int32) (by omega) (by omega) (by omega) (by omega) (by omega)
set_option maxHeartbeats 4000000 in
theorem okk_fcA_moveBranch_2 {g : Nat → Int32} : ∀ (n : Nat) (u : g_S) (x1 : Int32) (x2 : Int32) (x3 : Int32), IC g u → 0 ≤ x3.toInt → x3.toInt ≤ 120 → 0 ≤ x2.toInt → x2.toInt ≤ 59 → 121 ≤ (n : Int) + x3.toInt → okk (fcA_moveBranch_2 n u x1 x2 x3) (fun r => IC g r ∧ ((r.1 0).toInt = (u.1 0).toInt) ∧ ((r.1 1).toInt = (u.1 1).toInt)) := by
  intro n
  induction n with
  | zero =>
    intro u x1 x2 x3 I h0 h1 h2 h3 hf
    exfalso; omega
  | succ n ih =>
    intro u x1 x2 x3 I h0 h1 h2 h3 hf
    rw [fcA_moveBranch_2_s]
    have z1_ := IC_s I
    refine okk_le (fun c2_ c2_I => ?_) (fun c2_ c2_I => ?_)
    · exact okk_some (⟨I, (by show (u.1 0).toInt = (u.1 0).toInt; omega), (by show (u.1 1).toInt = (u.1 1).toInt; omega)⟩)
    · refine okk_bi (okk_fcA_isUnder I (by omega) (by omega)) (fun v3_ hv3_ => ?_)
      have p4_ := hv3_
      try have t6_ : (0 : Int32).toInt = (0 : Int) := (by decide : (0 : Int32).toInt = 0)
      refine okk_eq (fun c5_ c5_I => ?_) (fun c5_ c5_I => ?_)
      · have t7_ : (x3 + (1 : Int32)).toInt = (x3.toInt + (1 : Int)) := (oi_add (a := x3) (b := (1 : Int32)) rfl (by decide : (1 : Int32).toInt = 1) (by omega) (by omega))
        refine okk_mono (ih u x1 x2 (x3 + (1 : Int32)) I (by omega) (by omega) (by omega) (by omega) (by omega)) (fun r8_ hr8_ => ?_)
        obtain ⟨p9_, p10_, p11_⟩ := hr8_
        exact ⟨p9_, (by show (r8_.1 0).toInt = (u.1 0).toInt; omega), (by show (r8_.1 1).toInt = (u.1 1).toInt; omega)⟩
      · refine okk_ck (vp_I (by omega) (by omega)) ?_
        refine okk_gl (fun u212_ eu212_ => ?_)
        have Iu212_ : IC g u212_ := by rw [eu212_]; exact IC_v13 I _ _ (by omega) (by omega)
        have z13_ : (u212_.1 0).toInt = (u.1 0).toInt := by rw [eu212_]; rfl
        have z14_ : (u212_.1 1).toInt = (u.1 1).toInt := by rw [eu212_]; rfl
        have t15_ : (x3 + (1 : Int32)).toInt = (x3.toInt + (1 : Int)) := (oi_add (a := x3) (b := (1 : Int32)) rfl (by decide : (1 : Int32).toInt = 1) (by omega) (by omega))
        have z16_ := IC_s Iu212_
        refine okk_mono (ih u212_ x1 x2 (x3 + (1 : Int32)) Iu212_ (by omega) (by omega) (by omega) (by omega) (by omega)) (fun r17_ hr17_ => ?_)
        obtain ⟨p18_, p19_, p20_⟩ := hr17_
        exact ⟨p18_, (by show (r17_.1 0).toInt = (u.1 0).toInt; omega), (by show (r17_.1 1).toInt = (u.1 1).toInt; omega)⟩
set_option maxHeartbeats 4000000 in
theorem okk_fcA_moveBranch {g : Nat → Int32} {u : g_S} (I : IC g u) {p1 : Int32} {p2 : Int32} (h0 : 0 ≤ p2.toInt) (h1 : p2.toInt ≤ 59) : okk (fcA_moveBranch u p1 p2) (fun r => IC g r ∧ ((r.1 0).toInt = (u.1 0).toInt) ∧ ((r.1 1).toInt = (u.1 1).toInt)) := by
  unfold fcA_moveBranch
  have z1_ := IC_s I
  have t2_ : (0 : Int32).toInt = (0 : Int) := (by decide : (0 : Int32).toInt = 0)
  refine okk_mono (okk_fcA_moveBranch_2 200 u p1 p2 (0 : Int32) I (by omega) (by omega) (by omega) (by omega) (by omega)) (fun r3_ hr3_ => ?_)
  obtain ⟨p4_, p5_, p6_⟩ := hr3_
  exact ⟨p4_, (by show (r3_.1 0).toInt = (u.1 0).toInt; omega), (by show (r3_.1 1).toInt = (u.1 1).toInt; omega)⟩
set_option maxHeartbeats 4000000 in
theorem okk_fcA_moveAll_2 {g : Nat → Int32} : ∀ (n : Nat) (u : g_S) (x1 : Int32) (x2 : Int32) (x3 : Int32), IC g u → 0 ≤ x3.toInt → x3.toInt ≤ 120 → 0 ≤ x2.toInt → x2.toInt ≤ 59 → 121 ≤ (n : Int) + x3.toInt → okk (fcA_moveAll_2 n u x1 x2 x3) (fun r => IC g r ∧ ((r.1 0).toInt = (u.1 0).toInt) ∧ ((r.1 1).toInt = (u.1 1).toInt)) := by
  intro n
  induction n with
  | zero =>
    intro u x1 x2 x3 I h0 h1 h2 h3 hf
    exfalso; omega
  | succ n ih =>
    intro u x1 x2 x3 I h0 h1 h2 h3 hf
    rw [fcA_moveAll_2_s]
    have z1_ := IC_s I
    refine okk_le (fun c2_ c2_I => ?_) (fun c2_ c2_I => ?_)
    · exact okk_some (⟨I, (by show (u.1 0).toInt = (u.1 0).toInt; omega), (by show (u.1 1).toInt = (u.1 1).toInt; omega)⟩)
    · refine okk_ck (vp_I (by omega) (by omega)) ?_
      have r4_ := IC_r13 I x3.toNatClampNeg
      refine okk_ne (fun c3_ c3_I => ?_) (fun c3_ c3_I => ?_)
      · have t5_ : (x3 + (1 : Int32)).toInt = (x3.toInt + (1 : Int)) := (oi_add (a := x3) (b := (1 : Int32)) rfl (by decide : (1 : Int32).toInt = 1) (by omega) (by omega))
        refine okk_mono (ih u x1 x2 (x3 + (1 : Int32)) I (by omega) (by omega) (by omega) (by omega) (by omega)) (fun r6_ hr6_ => ?_)
        obtain ⟨p7_, p8_, p9_⟩ := hr6_
        exact ⟨p7_, (by show (r6_.1 0).toInt = (u.1 0).toInt; omega), (by show (r6_.1 1).toInt = (u.1 1).toInt; omega)⟩
      · refine okk_ck (vp_I (by omega) (by omega)) ?_
        refine okk_gl (fun u110_ eu110_ => ?_)
        have Iu110_ : IC g u110_ := by rw [eu110_]; exact IC_v13 I _ _ (by omega) (by omega)
        have z11_ : (u110_.1 0).toInt = (u.1 0).toInt := by rw [eu110_]; rfl
        have z12_ : (u110_.1 1).toInt = (u.1 1).toInt := by rw [eu110_]; rfl
        have t13_ : (x3 + (1 : Int32)).toInt = (x3.toInt + (1 : Int)) := (oi_add (a := x3) (b := (1 : Int32)) rfl (by decide : (1 : Int32).toInt = 1) (by omega) (by omega))
        have z14_ := IC_s Iu110_
        refine okk_mono (ih u110_ x1 x2 (x3 + (1 : Int32)) Iu110_ (by omega) (by omega) (by omega) (by omega) (by omega)) (fun r15_ hr15_ => ?_)
        obtain ⟨p16_, p17_, p18_⟩ := hr15_
        exact ⟨p16_, (by show (r15_.1 0).toInt = (u.1 0).toInt; omega), (by show (r15_.1 1).toInt = (u.1 1).toInt; omega)⟩
set_option maxHeartbeats 4000000 in
theorem okk_fcA_moveAll {g : Nat → Int32} {u : g_S} (I : IC g u) {p1 : Int32} {p2 : Int32} (h0 : 0 ≤ p2.toInt) (h1 : p2.toInt ≤ 59) : okk (fcA_moveAll u p1 p2) (fun r => IC g r ∧ ((r.1 0).toInt = (u.1 0).toInt) ∧ ((r.1 1).toInt = (u.1 1).toInt)) := by
  unfold fcA_moveAll
  have z1_ := IC_s I
  have t2_ : (0 : Int32).toInt = (0 : Int) := (by decide : (0 : Int32).toInt = 0)
  refine okk_mono (okk_fcA_moveAll_2 200 u p1 p2 (0 : Int32) I (by omega) (by omega) (by omega) (by omega) (by omega)) (fun r3_ hr3_ => ?_)
  obtain ⟨p4_, p5_, p6_⟩ := hr3_
  exact ⟨p4_, (by show (r3_.1 0).toInt = (u.1 0).toInt; omega), (by show (r3_.1 1).toInt = (u.1 1).toInt; omega)⟩
set_option maxHeartbeats 4000000 in
theorem okk_fcA_countIn_4 {g : Nat → Int32} {u : g_S} (I : IC g u) : ∀ (n : Nat) (x1 : Int32) (x2 : Int32) (x3 : Int32), 0 ≤ x3.toInt → x3.toInt ≤ 120 → 121 ≤ (n : Int) + x3.toInt → okk (fcA_countIn_4 u n x1 x2 x3) (fun r => True) := by
  intro n
  induction n with
  | zero =>
    intro x1 x2 x3 h0 h1 hf
    exfalso; omega
  | succ n ih =>
    intro x1 x2 x3 h0 h1 hf
    rw [fcA_countIn_4_s]
    have z1_ := IC_s I
    refine okk_le (fun c2_ c2_I => ?_) (fun c2_ c2_I => ?_)
    · exact okk_some (trivial)
    · refine okk_ck (vp_I (by omega) (by omega)) ?_
      have r4_ := IC_r13 I x3.toNatClampNeg
      refine okk_ne (fun c3_ c3_I => ?_) (fun c3_ c3_I => ?_)
      · have t5_ : (x3 + (1 : Int32)).toInt = (x3.toInt + (1 : Int)) := (oi_add (a := x3) (b := (1 : Int32)) rfl (by decide : (1 : Int32).toInt = 1) (by omega) (by omega))
        exact ih x1 x2 (x3 + (1 : Int32)) (by omega) (by omega) (by omega)
      · have t6_ : (x3 + (1 : Int32)).toInt = (x3.toInt + (1 : Int)) := (oi_add (a := x3) (b := (1 : Int32)) rfl (by decide : (1 : Int32).toInt = 1) (by omega) (by omega))
        exact ih x1 (x2 + (1 : Int32)) (x3 + (1 : Int32)) (by omega) (by omega) (by omega)
set_option maxHeartbeats 4000000 in
theorem okk_fcA_countIn {g : Nat → Int32} {u : g_S} (I : IC g u) {p1 : Int32} : okk (fcA_countIn u p1) (fun r => True) := by
  unfold fcA_countIn
  have z1_ := IC_s I
  have t2_ : (0 : Int32).toInt = (0 : Int) := (by decide : (0 : Int32).toInt = 0)
  exact okk_fcA_countIn_4 I 200 p1 (0 : Int32) (0 : Int32) (by omega) (by omega) (by omega)
set_option maxHeartbeats 4000000 in
theorem okk_fcA_memberOf_5 {g : Nat → Int32} {u : g_S} (I : IC g u) : ∀ (n : Nat) (x1 : Int32) (x2 : Int32) (x3 : Int32) (x4 : Int32), 0 ≤ x4.toInt → x4.toInt ≤ 120 → 121 ≤ (n : Int) + x4.toInt → okk (fcA_memberOf_5 u n x1 x2 x3 x4) (fun r => True) := by
  intro n
  induction n with
  | zero =>
    intro x1 x2 x3 x4 h0 h1 hf
    exfalso; omega
  | succ n ih =>
    intro x1 x2 x3 x4 h0 h1 hf
    rw [fcA_memberOf_5_s]
    have z1_ := IC_s I
    refine okk_le (fun c2_ c2_I => ?_) (fun c2_ c2_I => ?_)
    · exact okk_some (trivial)
    · refine okk_ck (vp_I (by omega) (by omega)) ?_
      have r4_ := IC_r13 I x4.toNatClampNeg
      refine okk_ne (fun c3_ c3_I => ?_) (fun c3_ c3_I => ?_)
      · have t5_ : (x4 + (1 : Int32)).toInt = (x4.toInt + (1 : Int)) := (oi_add (a := x4) (b := (1 : Int32)) rfl (by decide : (1 : Int32).toInt = 1) (by omega) (by omega))
        exact ih x1 x2 x3 (x4 + (1 : Int32)) (by omega) (by omega) (by omega)
      · refine okk_ne (fun c6_ c6_I => ?_) (fun c6_ c6_I => ?_)
        · have t7_ : (x4 + (1 : Int32)).toInt = (x4.toInt + (1 : Int)) := (oi_add (a := x4) (b := (1 : Int32)) rfl (by decide : (1 : Int32).toInt = 1) (by omega) (by omega))
          exact ih x1 x2 (x3 + (1 : Int32)) (x4 + (1 : Int32)) (by omega) (by omega) (by omega)
        · exact okk_some (trivial)
set_option maxHeartbeats 4000000 in
theorem okk_fcA_memberOf {g : Nat → Int32} {u : g_S} (I : IC g u) {p1 : Int32} {p2 : Int32} : okk (fcA_memberOf u p1 p2) (fun r => True) := by
  unfold fcA_memberOf
  have z1_ := IC_s I
  have t2_ : (0 : Int32).toInt = (0 : Int) := (by decide : (0 : Int32).toInt = 0)
  exact okk_fcA_memberOf_5 I 200 p1 p2 (0 : Int32) (0 : Int32) (by omega) (by omega) (by omega)
set_option maxHeartbeats 4000000 in
theorem okk_fcA_weighCall {g : Nat → Int32} {u : g_S} (I : IC g u) {p1 : Int32} (h0 : 0 ≤ p1.toInt) (h1 : p1.toInt ≤ 120) : okk (fcA_weighCall u p1) (fun r => True) := by
  unfold fcA_weighCall
  have z1_ := IC_s I
  refine okk_ck (vp_I (by omega) (by omega)) ?_
  try have t3_ : (0 : Int32).toInt = (0 : Int) := (by decide : (0 : Int32).toInt = 0)
  refine okk_eq (fun c2_ c2_I => ?_) (fun c2_ c2_I => ?_)
  · unfold fcA_weighCall_16
    refine okk_ck (vp_I (by omega) (by omega)) ?_
    try have t5_ : (-1 : Int32).toInt = (-1 : Int) := (by decide : (-1 : Int32).toInt = -1)
    refine okk_eq (fun c4_ c4_I => ?_) (fun c4_ c4_I => ?_)
    · exact okk_some (trivial)
    · exact okk_some (trivial)
  · unfold fcA_weighCall_16
    refine okk_ck (vp_I (by omega) (by omega)) ?_
    try have t7_ : (-1 : Int32).toInt = (-1 : Int) := (by decide : (-1 : Int32).toInt = -1)
    refine okk_eq (fun c6_ c6_I => ?_) (fun c6_ c6_I => ?_)
    · exact okk_some (trivial)
    · exact okk_some (trivial)
set_option maxHeartbeats 4000000 in
theorem okk_fcA_weighEvent_4 {g : Nat → Int32} {u : g_S} (I : IC g u) : ∀ (n : Nat) (x1 : Int32) (x2 : Int32) (x3 : Int32), 0 ≤ x3.toInt → x3.toInt ≤ 120 → 121 ≤ (n : Int) + x3.toInt → okk (fcA_weighEvent_4 u n x1 x2 x3) (fun r => True) := by
  intro n
  induction n with
  | zero =>
    intro x1 x2 x3 h0 h1 hf
    exfalso; omega
  | succ n ih =>
    intro x1 x2 x3 h0 h1 hf
    rw [fcA_weighEvent_4_s]
    have z1_ := IC_s I
    refine okk_le (fun c2_ c2_I => ?_) (fun c2_ c2_I => ?_)
    · exact okk_some (trivial)
    · refine okk_ck (vp_I (by omega) (by omega)) ?_
      have r4_ := IC_r13 I x3.toNatClampNeg
      refine okk_ne (fun c3_ c3_I => ?_) (fun c3_ c3_I => ?_)
      · have t5_ : (x3 + (1 : Int32)).toInt = (x3.toInt + (1 : Int)) := (oi_add (a := x3) (b := (1 : Int32)) rfl (by decide : (1 : Int32).toInt = 1) (by omega) (by omega))
        exact ih x1 x2 (x3 + (1 : Int32)) (by omega) (by omega) (by omega)
      · refine okk_bi (okk_fcA_isHoax I (by omega) (by omega)) (fun v6_ hv6_ => ?_)
        have p7_ := hv6_
        try have t9_ : (0 : Int32).toInt = (0 : Int) := (by decide : (0 : Int32).toInt = 0)
        refine okk_ne (fun c8_ c8_I => ?_) (fun c8_ c8_I => ?_)
        · have t10_ : (x3 + (1 : Int32)).toInt = (x3.toInt + (1 : Int)) := (oi_add (a := x3) (b := (1 : Int32)) rfl (by decide : (1 : Int32).toInt = 1) (by omega) (by omega))
          exact ih x1 x2 (x3 + (1 : Int32)) (by omega) (by omega) (by omega)
        · refine okk_bi (okk_fcA_weighCall I (by omega) (by omega)) (fun v11_ hv11_ => ?_)
          have p12_ := hv11_
          try have t14_ : (x2 + v11_).toInt = (x2.toInt + v11_.toInt) := (oi_add (a := x2) (b := v11_) rfl rfl (by omega) (by omega))
          refine okk_gl (fun w313_ ew313_ => ?_)
          have t15_ : w313_.toInt = (x2 + v11_).toInt := by rw [ew313_]
          have t16_ : (x3 + (1 : Int32)).toInt = (x3.toInt + (1 : Int)) := (oi_add (a := x3) (b := (1 : Int32)) rfl (by decide : (1 : Int32).toInt = 1) (by omega) (by omega))
          exact ih x1 w313_ (x3 + (1 : Int32)) (by omega) (by omega) (by omega)
set_option maxHeartbeats 4000000 in
theorem okk_fcA_weighEvent {g : Nat → Int32} {u : g_S} (I : IC g u) {p1 : Int32} : okk (fcA_weighEvent u p1) (fun r => True) := by
  unfold fcA_weighEvent
  have z1_ := IC_s I
  have t2_ : (0 : Int32).toInt = (0 : Int) := (by decide : (0 : Int32).toInt = 0)
  exact okk_fcA_weighEvent_4 I 200 p1 (0 : Int32) (0 : Int32) (by omega) (by omega) (by omega)
set_option maxHeartbeats 4000000 in
theorem okk_fcA_pointOf_2 {g : Nat → Int32} {u : g_S} (I : IC g u) : ∀ (n : Nat) (x1 : Int32) (x2 : Int32), 0 ≤ x2.toInt → x2.toInt ≤ 120 → 121 ≤ (n : Int) + x2.toInt → okk (fcA_pointOf_2 u n x1 x2) (fun r => True) := by
  intro n
  induction n with
  | zero =>
    intro x1 x2 h0 h1 hf
    exfalso; omega
  | succ n ih =>
    intro x1 x2 h0 h1 hf
    rw [fcA_pointOf_2_s]
    have z1_ := IC_s I
    refine okk_le (fun c2_ c2_I => ?_) (fun c2_ c2_I => ?_)
    · exact okk_some (trivial)
    · refine okk_ck (vp_I (by omega) (by omega)) ?_
      have r4_ := IC_r13 I x2.toNatClampNeg
      refine okk_ne (fun c3_ c3_I => ?_) (fun c3_ c3_I => ?_)
      · have t5_ : (x2 + (1 : Int32)).toInt = (x2.toInt + (1 : Int)) := (oi_add (a := x2) (b := (1 : Int32)) rfl (by decide : (1 : Int32).toInt = 1) (by omega) (by omega))
        exact ih x1 (x2 + (1 : Int32)) (by omega) (by omega) (by omega)
      · refine okk_bi (okk_fcA_isHoax I (by omega) (by omega)) (fun v6_ hv6_ => ?_)
        have p7_ := hv6_
        try have t9_ : (0 : Int32).toInt = (0 : Int) := (by decide : (0 : Int32).toInt = 0)
        refine okk_ne (fun c8_ c8_I => ?_) (fun c8_ c8_I => ?_)
        · have t10_ : (x2 + (1 : Int32)).toInt = (x2.toInt + (1 : Int)) := (oi_add (a := x2) (b := (1 : Int32)) rfl (by decide : (1 : Int32).toInt = 1) (by omega) (by omega))
          exact ih x1 (x2 + (1 : Int32)) (by omega) (by omega) (by omega)
        · refine okk_ck (vp_I (by omega) (by omega)) ?_
          try have t12_ : (-1 : Int32).toInt = (-1 : Int) := (by decide : (-1 : Int32).toInt = -1)
          refine okk_eq (fun c11_ c11_I => ?_) (fun c11_ c11_I => ?_)
          · have t13_ : (x2 + (1 : Int32)).toInt = (x2.toInt + (1 : Int)) := (oi_add (a := x2) (b := (1 : Int32)) rfl (by decide : (1 : Int32).toInt = 1) (by omega) (by omega))
            exact ih x1 (x2 + (1 : Int32)) (by omega) (by omega) (by omega)
          · refine okk_ck (vp_I (by omega) (by omega)) ?_
            exact okk_some (trivial)
set_option maxHeartbeats 4000000 in
theorem okk_fcA_pointOf {g : Nat → Int32} {u : g_S} (I : IC g u) {p1 : Int32} : okk (fcA_pointOf u p1) (fun r => True) := by
  unfold fcA_pointOf
  have z1_ := IC_s I
  have t2_ : (0 : Int32).toInt = (0 : Int) := (by decide : (0 : Int32).toInt = 0)
  exact okk_fcA_pointOf_2 I 200 p1 (0 : Int32) (by omega) (by omega) (by omega)
set_option maxHeartbeats 4000000 in
theorem okk_fcA_latestTimeOf_7 {g : Nat → Int32} {u : g_S} (I : IC g u) : ∀ (n : Nat) (x1 : Int32) (x2 : Int32), -1 ≤ x2.toInt → x2.toInt ≤ 119 → x2.toInt + 2 ≤ (n : Int) → okk (fcA_latestTimeOf_7 u n x1 x2) (fun r => True) := by
  intro n
  induction n with
  | zero =>
    intro x1 x2 h0 h1 hf
    exfalso; omega
  | succ n ih =>
    intro x1 x2 h0 h1 hf
    rw [fcA_latestTimeOf_7_s]
    have z1_ := IC_s I
    try have t3_ : (0 : Int32).toInt = (0 : Int) := (by decide : (0 : Int32).toInt = 0)
    refine okk_lt (fun c2_ c2_I => ?_) (fun c2_ c2_I => ?_)
    · exact okk_some (trivial)
    · refine okk_ck (vp_I (by omega) (by omega)) ?_
      have r5_ := IC_r13 I x2.toNatClampNeg
      refine okk_ne (fun c4_ c4_I => ?_) (fun c4_ c4_I => ?_)
      · have t6_ : (x2 + (-1 : Int32)).toInt = (x2.toInt + (-1 : Int)) := (oi_add (a := x2) (b := (-1 : Int32)) rfl (by decide : (-1 : Int32).toInt = -1) (by omega) (by omega))
        exact ih x1 (x2 + (-1 : Int32)) (by omega) (by omega) (by omega)
      · refine okk_ck (vp_I (by omega) (by omega)) ?_
        exact okk_some (trivial)
set_option maxHeartbeats 4000000 in
theorem okk_fcA_latestTimeOf {g : Nat → Int32} {u : g_S} (I : IC g u) {p1 : Int32} : okk (fcA_latestTimeOf u p1) (fun r => True) := by
  unfold fcA_latestTimeOf
  have z1_ := IC_s I
  try have t3_ : ((u.1 0) - (1 : Int32)).toInt = ((u.1 0).toInt - (1 : Int)) := (oi_sub (a := (u.1 0)) (b := (1 : Int32)) rfl (by decide : (1 : Int32).toInt = 1) (by omega) (by omega))
  refine okk_gl (fun w12_ ew12_ => ?_)
  have t4_ : w12_.toInt = ((u.1 0) - (1 : Int32)).toInt := by rw [ew12_]
  exact okk_fcA_latestTimeOf_7 I 200 p1 w12_ (by omega) (by omega) (by omega)
end
section
set_option maxHeartbeats 4000000 in
theorem okk_fcA_countHoaxes_4 {g : Nat → Int32} {u : g_S} (I : IC g u) : ∀ (n : Nat) (x1 : Int32) (x2 : Int32), 0 ≤ x2.toInt → x2.toInt ≤ 120 → 121 ≤ (n : Int) + x2.toInt → okk (fcA_countHoaxes_4 u n x1 x2) (fun r => True) := by
  intro n
  induction n with
  | zero =>
    intro x1 x2 h0 h1 hf
    exfalso; omega
  | succ n ih =>
    intro x1 x2 h0 h1 hf
    rw [fcA_countHoaxes_4_s]
    have z1_ := IC_s I
    refine okk_le (fun c2_ c2_I => ?_) (fun c2_ c2_I => ?_)
    · exact okk_some (trivial)
    · refine okk_bi (okk_fcA_isHoax I (by omega) (by omega)) (fun v3_ hv3_ => ?_)
      have p4_ := hv3_
      try have t6_ : (0 : Int32).toInt = (0 : Int) := (by decide : (0 : Int32).toInt = 0)
      refine okk_eq (fun c5_ c5_I => ?_) (fun c5_ c5_I => ?_)
      · have t7_ : (x2 + (1 : Int32)).toInt = (x2.toInt + (1 : Int)) := (oi_add (a := x2) (b := (1 : Int32)) rfl (by decide : (1 : Int32).toInt = 1) (by omega) (by omega))
        exact ih x1 (x2 + (1 : Int32)) (by omega) (by omega) (by omega)
      · have t8_ : (x2 + (1 : Int32)).toInt = (x2.toInt + (1 : Int)) := (oi_add (a := x2) (b := (1 : Int32)) rfl (by decide : (1 : Int32).toInt = 1) (by omega) (by omega))
        exact ih (x1 + (1 : Int32)) (x2 + (1 : Int32)) (by omega) (by omega) (by omega)
set_option maxHeartbeats 4000000 in
theorem okk_fcA_countHoaxes {g : Nat → Int32} {u : g_S} (I : IC g u) : okk (fcA_countHoaxes u) (fun r => True) := by
  unfold fcA_countHoaxes
  have z1_ := IC_s I
  have t2_ : (0 : Int32).toInt = (0 : Int) := (by decide : (0 : Int32).toInt = 0)
  exact okk_fcA_countHoaxes_4 I 200 (0 : Int32) (0 : Int32) (by omega) (by omega) (by omega)
set_option maxHeartbeats 4000000 in
theorem okk_fcE_begin {g : Nat → Int32} {u : g_S} (I : IC g u) {p1 : Int32} {p2 : Int32} (h0 : (u.1 1).toInt ≤ 59) (h1 : 0 ≤ p1.toInt) (h2 : p1.toInt ≤ 7) (h3 : 0 ≤ p2.toInt) (h4 : p2.toInt ≤ 120) : okk (fcE_begin u p1 p2) (fun r => IC g r.2 ∧ (r.1.toInt = (u.1 1).toInt) ∧ ((r.2.1 0).toInt = (u.1 0).toInt) ∧ ((r.2.1 1).toInt = (u.1 1).toInt + 1)) := by
  unfold fcE_begin
  have z1_ := IC_s I
  refine okk_ck (vp_I (by omega) (by omega)) ?_
  have t3_ : (0 : Int32).toInt = (0 : Int) := (by decide : (0 : Int32).toInt = 0)
  refine okk_gl (fun u12_ eu12_ => ?_)
  have Iu12_ : IC g u12_ := by rw [eu12_]; exact IC_w17 I _ _ (IC_f I _ (Or.inr (by have := cl_I (x := (u.1 1)) (by omega); omega)))
  have z4_ : (u12_.1 0).toInt = (u.1 0).toInt := by rw [eu12_]; rfl
  have z5_ : (u12_.1 1).toInt = (u.1 1).toInt := by rw [eu12_]; rfl
  refine okk_ck (vp_I (by omega) (by omega)) ?_
  refine okk_gl (fun u26_ eu26_ => ?_)
  have Iu26_ : IC g u26_ := by rw [eu26_]; exact IC_wx Iu12_ 18 _ _ rfl rfl (by decide)
  have z7_ : (u26_.1 0).toInt = (u12_.1 0).toInt := by rw [eu26_]; rfl
  have z8_ : (u26_.1 1).toInt = (u12_.1 1).toInt := by rw [eu26_]; rfl
  refine okk_ck (vp_I (by omega) (by omega)) ?_
  refine okk_gl (fun u39_ eu39_ => ?_)
  have Iu39_ : IC g u39_ := by rw [eu39_]; exact IC_w19 Iu26_ _ _ (by omega) (by omega)
  have z10_ : (u39_.1 0).toInt = (u26_.1 0).toInt := by rw [eu39_]; rfl
  have z11_ : (u39_.1 1).toInt = (u26_.1 1).toInt := by rw [eu39_]; rfl
  refine okk_ck (vp_I (by omega) (by omega)) ?_
  have t13_ : (-1 : Int32).toInt = (-1 : Int) := (by decide : (-1 : Int32).toInt = -1)
  refine okk_gl (fun u412_ eu412_ => ?_)
  have Iu412_ : IC g u412_ := by rw [eu412_]; exact IC_v20 Iu39_ _ _ (by omega) (by omega)
  have z14_ : (u412_.1 0).toInt = (u39_.1 0).toInt := by rw [eu412_]; rfl
  have z15_ : (u412_.1 1).toInt = (u39_.1 1).toInt := by rw [eu412_]; rfl
  have t17_ : ((u412_.1 1) + (1 : Int32)).toInt = ((u412_.1 1).toInt + (1 : Int)) := (oi_add (a := (u412_.1 1)) (b := (1 : Int32)) rfl (by decide : (1 : Int32).toInt = 1) (by omega) (by omega))
  refine okk_gl (fun u516_ eu516_ => ?_)
  have Iu516_ : IC g u516_ := by rw [eu516_]; exact IC_i1 Iu412_ _ (by omega) (by omega)
  have z18_ : (u516_.1 0).toInt = (u412_.1 0).toInt := by rw [eu516_]; rfl
  have z19_ : (u516_.1 1).toInt = ((u412_.1 1) + (1 : Int32)).toInt := by rw [eu516_]; rfl
  try have t20_ : ((u516_.1 1) - (1 : Int32)).toInt = ((u516_.1 1).toInt - (1 : Int)) := (oi_sub (a := (u516_.1 1)) (b := (1 : Int32)) rfl (by decide : (1 : Int32).toInt = 1) (by omega) (by omega))
  exact okk_some (⟨Iu516_, (by show ((u516_.1 1) - (1 : Int32)).toInt = (u.1 1).toInt; omega), (by show (u516_.1 0).toInt = (u.1 0).toInt; omega), (by show (u516_.1 1).toInt = (u.1 1).toInt + 1; omega)⟩)
set_option maxHeartbeats 4000000 in
theorem okk_fcE_isWatchedFor {g : Nat → Int32} {u : g_S} (I : IC g u) {p1 : Int32} {p2 : Int32} (h0 : 0 ≤ p1.toInt) (h1 : p1.toInt ≤ 59) : okk (fcE_isWatchedFor u p1 p2) (fun r => (r.toInt = 0 ∨ 0 ≤ (u.2 20 p1.toNatClampNeg).toInt)) := by
  unfold fcE_isWatchedFor
  have z1_ := IC_s I
  refine okk_ck (vp_I (by omega) (by omega)) ?_
  try have t3_ : (0 : Int32).toInt = (0 : Int) := (by decide : (0 : Int32).toInt = 0)
  refine okk_ne (fun c2_ c2_I => ?_) (fun c2_ c2_I => ?_)
  · exact okk_some ((by show (0 : Int32).toInt = 0 ∨ 0 ≤ (u.2 20 p1.toNatClampNeg).toInt; omega))
  · refine okk_ck (vp_I (by omega) (by omega)) ?_
    refine okk_ne (fun c4_ c4_I => ?_) (fun c4_ c4_I => ?_)
    · exact okk_some ((by show (0 : Int32).toInt = 0 ∨ 0 ≤ (u.2 20 p1.toNatClampNeg).toInt; omega))
    · refine okk_ck (vp_I (by omega) (by omega)) ?_
      have r6_ := IC_r20 I p1.toNatClampNeg
      try have t7_ : (-1 : Int32).toInt = (-1 : Int) := (by decide : (-1 : Int32).toInt = -1)
      refine okk_eq (fun c5_ c5_I => ?_) (fun c5_ c5_I => ?_)
      · exact okk_some ((by show (0 : Int32).toInt = 0 ∨ 0 ≤ (u.2 20 p1.toNatClampNeg).toInt; omega))
      · try have t8_ : (1 : Int32).toInt = (1 : Int) := (by decide : (1 : Int32).toInt = 1)
        exact okk_some ((by show (1 : Int32).toInt = 0 ∨ 0 ≤ (u.2 20 p1.toNatClampNeg).toInt; omega))
set_option maxHeartbeats 4000000 in
theorem okk_fcE_countOpen_4 {g : Nat → Int32} {u : g_S} (I : IC g u) : ∀ (n : Nat) (x1 : Int32) (x2 : Int32), 0 ≤ x2.toInt → x2.toInt ≤ 60 → 61 ≤ (n : Int) + x2.toInt → okk (fcE_countOpen_4 u n x1 x2) (fun r => True) := by
  intro n
  induction n with
  | zero =>
    intro x1 x2 h0 h1 hf
    exfalso; omega
  | succ n ih =>
    intro x1 x2 h0 h1 hf
    rw [fcE_countOpen_4_s]
    have z1_ := IC_s I
    refine okk_le (fun c2_ c2_I => ?_) (fun c2_ c2_I => ?_)
    · exact okk_some (trivial)
    · refine okk_ck (vp_I (by omega) (by omega)) ?_
      try have t4_ : (0 : Int32).toInt = (0 : Int) := (by decide : (0 : Int32).toInt = 0)
      refine okk_ne (fun c3_ c3_I => ?_) (fun c3_ c3_I => ?_)
      · have t5_ : (x2 + (1 : Int32)).toInt = (x2.toInt + (1 : Int)) := (oi_add (a := x2) (b := (1 : Int32)) rfl (by decide : (1 : Int32).toInt = 1) (by omega) (by omega))
        exact ih x1 (x2 + (1 : Int32)) (by omega) (by omega) (by omega)
      · have t6_ : (x2 + (1 : Int32)).toInt = (x2.toInt + (1 : Int)) := (oi_add (a := x2) (b := (1 : Int32)) rfl (by decide : (1 : Int32).toInt = 1) (by omega) (by omega))
        exact ih (x1 + (1 : Int32)) (x2 + (1 : Int32)) (by omega) (by omega) (by omega)
set_option maxHeartbeats 4000000 in
theorem okk_fcE_countOpen {g : Nat → Int32} {u : g_S} (I : IC g u) : okk (fcE_countOpen u) (fun r => True) := by
  unfold fcE_countOpen
  have z1_ := IC_s I
  have t2_ : (0 : Int32).toInt = (0 : Int) := (by decide : (0 : Int32).toInt = 0)
  exact okk_fcE_countOpen_4 I 200 (0 : Int32) (0 : Int32) (by omega) (by omega) (by omega)
set_option maxHeartbeats 4000000 in
theorem okk_fcJ_eastOf {p0 : Int32} : okk (fcJ_eastOf p0) (fun r => True) := by
  unfold fcJ_eastOf
  exact okk_some (trivial)
set_option maxHeartbeats 4000000 in
theorem okk_fcJ_northOf {p0 : Int32} : okk (fcJ_northOf p0) (fun r => True) := by
  unfold fcJ_northOf
  exact okk_some (trivial)
set_option maxHeartbeats 4000000 in
theorem okk_fcJ_squareBetween {p0 : Int32} {p1 : Int32} : okk (fcJ_squareBetween p0 p1) (fun r => True) := by
  unfold fcJ_squareBetween
  refine okk_bi (okk_fcJ_eastOf ) (fun v1_ hv1_ => ?_)
  have p2_ := hv1_
  refine okk_bi (okk_fcJ_eastOf ) (fun v3_ hv3_ => ?_)
  have p4_ := hv3_
  refine okk_gl (fun w35_ ew35_ => ?_)
  refine okk_bi (okk_fcJ_northOf ) (fun v6_ hv6_ => ?_)
  have p7_ := hv6_
  refine okk_bi (okk_fcJ_northOf ) (fun v8_ hv8_ => ?_)
  have p9_ := hv8_
  refine okk_gl (fun w610_ ew610_ => ?_)
  exact okk_some (trivial)
set_option maxHeartbeats 4000000 in
theorem okk_fcR_isNearPiece {p0 : Int32} {p1 : Int32} {p2 : Int32} : okk (fcR_isNearPiece p0 p1 p2) (fun r => True) := by
  unfold fcR_isNearPiece
  refine okk_bi (okk_fcJ_eastOf ) (fun v1_ hv1_ => ?_)
  have p2_ := hv1_
  refine okk_bi (okk_fcJ_eastOf ) (fun v3_ hv3_ => ?_)
  have p4_ := hv3_
  refine okk_gl (fun w35_ ew35_ => ?_)
  refine okk_bi (okk_fcJ_northOf ) (fun v6_ hv6_ => ?_)
  have p7_ := hv6_
  refine okk_bi (okk_fcJ_northOf ) (fun v8_ hv8_ => ?_)
  have p9_ := hv8_
  refine okk_gl (fun w610_ ew610_ => ?_)
  refine okk_bi (okk_fcJ_eastOf ) (fun v11_ hv11_ => ?_)
  have p12_ := hv11_
  refine okk_bi (okk_fcJ_eastOf ) (fun v13_ hv13_ => ?_)
  have p14_ := hv13_
  refine okk_gl (fun w915_ ew915_ => ?_)
  refine okk_bi (okk_fcJ_northOf ) (fun v16_ hv16_ => ?_)
  have p17_ := hv16_
  refine okk_bi (okk_fcJ_northOf ) (fun v18_ hv18_ => ?_)
  have p19_ := hv18_
  refine okk_gl (fun w1220_ ew1220_ => ?_)
  refine okk_gl (fun w1321_ ew1321_ => ?_)
  refine okk_gl (fun w1422_ ew1422_ => ?_)
  try have t24_ : (0 : Int32).toInt = (0 : Int) := (by decide : (0 : Int32).toInt = 0)
  refine okk_lt (fun c23_ c23_I => ?_) (fun c23_ c23_I => ?_)
  · refine okk_lt (fun c25_ c25_I => ?_) (fun c25_ c25_I => ?_)
    · refine okk_gl (fun w1526_ ew1526_ => ?_)
      refine okk_lt (fun c27_ c27_I => ?_) (fun c27_ c27_I => ?_)
      · exact okk_some (trivial)
      · exact okk_some (trivial)
    · refine okk_bi (okk_fcJ_squareBetween ) (fun v28_ hv28_ => ?_)
      have p29_ := hv28_
      refine okk_lt (fun c30_ c30_I => ?_) (fun c30_ c30_I => ?_)
      · exact okk_some (trivial)
      · exact okk_some (trivial)
  · refine okk_bi (okk_fcJ_squareBetween ) (fun v31_ hv31_ => ?_)
    have p32_ := hv31_
    refine okk_lt (fun c33_ c33_I => ?_) (fun c33_ c33_I => ?_)
    · exact okk_some (trivial)
    · exact okk_some (trivial)
set_option maxHeartbeats 4000000 in
theorem okk_fcR_isNear_9 {g : Nat → Int32} {u : g_S} (I : IC g u) : ∀ (n : Nat) (x3 : Int32) (x4 : Int32) (x5 : Int32) (x6 : Int32), 0 ≤ x6.toInt → x6.toInt ≤ 7 → 0 ≤ x5.toInt → x5.toInt ≤ 56 → x3.toInt ≤ 7 → 8 ≤ (n : Int) + x6.toInt → okk (fcR_isNear_9 u n x3 x4 x5 x6) (fun r => ((r = 0 ∨ r = 1) ∧ (r.toInt = 0 ∨ r.toInt = 1))) := by
  intro n
  induction n with
  | zero =>
    intro x3 x4 x5 x6 h0 h1 h2 h3 h4 hf
    exfalso; omega
  | succ n ih =>
    intro x3 x4 x5 x6 h0 h1 h2 h3 h4 hf
    rw [fcR_isNear_9_s]
    have z1_ := IC_s I
    refine okk_le (fun c2_ c2_I => ?_) (fun c2_ c2_I => ?_)
    · try have t3_ : (0 : Int32).toInt = (0 : Int) := (by decide : (0 : Int32).toInt = 0)
      exact okk_some (⟨Or.inl rfl, by omega⟩)
    · have t4_ : (x5 + x6).toInt = (x5.toInt + x6.toInt) := (oi_add (a := x5) (b := x6) rfl rfl (by omega) (by omega))
      refine okk_ck (vp_I (by omega) (by omega)) ?_
      have t5_ : ((x5 + x6) + (1 : Int32)).toInt = ((x5.toInt + x6.toInt) + (1 : Int)) := (oi_add (a := (x5 + x6)) (b := (1 : Int32)) (oi_add (a := x5) (b := x6) rfl rfl (by omega) (by omega)) (by decide : (1 : Int32).toInt = 1) (by omega) (by omega))
      refine okk_ck (vp_I (by omega) (by omega)) ?_
      refine okk_bi (okk_fcR_isNearPiece ) (fun v6_ hv6_ => ?_)
      have p7_ := hv6_
      try have t9_ : (0 : Int32).toInt = (0 : Int) := (by decide : (0 : Int32).toInt = 0)
      refine okk_eq (fun c8_ c8_I => ?_) (fun c8_ c8_I => ?_)
      · have t10_ : (x6 + (1 : Int32)).toInt = (x6.toInt + (1 : Int)) := (oi_add (a := x6) (b := (1 : Int32)) rfl (by decide : (1 : Int32).toInt = 1) (by omega) (by omega))
        exact ih x3 x4 x5 (x6 + (1 : Int32)) (by omega) (by omega) (by omega) (by omega) (by omega) (by omega)
      · try have t11_ : (1 : Int32).toInt = (1 : Int) := (by decide : (1 : Int32).toInt = 1)
        exact okk_some (⟨Or.inr rfl, by omega⟩)
set_option maxHeartbeats 4000000 in
theorem okk_fcR_isNear {g : Nat → Int32} {u : g_S} (I : IC g u) {p1 : Int32} {p2 : Int32} {p3 : Int32} {p4 : Int32} (h0 : 0 ≤ p1.toInt) (h1 : p1.toInt ≤ 7) (h2 : 0 ≤ p2.toInt) (h3 : p2.toInt ≤ 7) (h4 : p3.toInt ≤ 7) : okk (fcR_isNear u p1 p2 p3 p4) (fun r => ((r = 0 ∨ r = 1) ∧ (r.toInt = 0 ∨ r.toInt = 1))) := by
  unfold fcR_isNear
  have z1_ := IC_s I
  try have t3_ : (p1 * (8 : Int32)).toInt = (p1.toInt * (8 : Int)) := (oi_mul (a := p1) (b := (8 : Int32)) rfl (by decide : (8 : Int32).toInt = 8) (by omega) (by omega))
  refine okk_gl (fun w12_ ew12_ => ?_)
  have t4_ : w12_.toInt = (p1 * (8 : Int32)).toInt := by rw [ew12_]
  exact okk_fcR_isNear_9 I 200 p3 p4 w12_ p2 (by omega) (by omega) (by omega) (by omega) (by omega) (by omega)
set_option maxHeartbeats 4000000 in
theorem okk_fcU_weigh_8 {g : Nat → Int32} {u : g_S} (I : IC g u) : ∀ (n : Nat) (x1 : Int32) (x3 : Int32) (x4 : Int32) (x5 : Int32), 0 ≤ x5.toInt → x5.toInt ≤ 32 → 0 ≤ x1.toInt → x1.toInt ≤ 7 → 33 ≤ (n : Int) + x5.toInt → okk (fcU_weigh_8 u n x1 x3 x4 x5) (fun r => True) := by
  intro n
  induction n with
  | zero =>
    intro x1 x3 x4 x5 h0 h1 h2 h3 hf
    exfalso; omega
  | succ n ih =>
    intro x1 x3 x4 x5 h0 h1 h2 h3 hf
    rw [fcU_weigh_8_s]
    have z1_ := IC_s I
    try have t3_ : (32 : Int32).toInt = (32 : Int) := (by decide : (32 : Int32).toInt = 32)
    refine okk_le (fun c2_ c2_I => ?_) (fun c2_ c2_I => ?_)
    · exact okk_some (trivial)
    · try have t5_ : (0 : Int32).toInt = (0 : Int) := (by decide : (0 : Int32).toInt = 0)
      refine okk_eq (fun c4_ c4_I => ?_) (fun c4_ c4_I => ?_)
      · exact okk_some (trivial)
      · try have t7_ : (1 : Int32).toInt = (1 : Int) := (by decide : (1 : Int32).toInt = 1)
        refine okk_ne (fun c6_ c6_I => ?_) (fun c6_ c6_I => ?_)
        · refine okk_gl (fun w18_ ew18_ => ?_)
          have t9_ : w18_.toInt = ((x4.toUInt32 >>> (Int32.toUInt32 (1 : Int32) &&& Int32.toUInt32 31)).toInt32).toInt := by rw [ew18_]
          have t10_ : (x5 + (1 : Int32)).toInt = (x5.toInt + (1 : Int)) := (oi_add (a := x5) (b := (1 : Int32)) rfl (by decide : (1 : Int32).toInt = 1) (by omega) (by omega))
          exact ih x1 x3 w18_ (x5 + (1 : Int32)) (by omega) (by omega) (by omega) (by omega) (by omega)
        · have t11_ : ((x1 * (32 : Int32)) + x5).toInt = ((x1.toInt * (32 : Int)) + x5.toInt) := (oi_add (a := (x1 * (32 : Int32))) (b := x5) (oi_mul (a := x1) (b := (32 : Int32)) rfl (by decide : (32 : Int32).toInt = 32) (by omega) (by omega)) rfl (by omega) (by omega))
          refine okk_ck (vp_I (by omega) (by omega)) ?_
          try have t13_ : (x3 + (u.2 4 ((x1 * (32 : Int32)) + x5).toNatClampNeg)).toInt = (x3.toInt + (u.2 4 ((x1 * (32 : Int32)) + x5).toNatClampNeg).toInt) := (oi_add (a := x3) (b := (u.2 4 ((x1 * (32 : Int32)) + x5).toNatClampNeg)) rfl rfl (by omega) (by omega))
          refine okk_gl (fun w212_ ew212_ => ?_)
          have t14_ : w212_.toInt = (x3 + (u.2 4 ((x1 * (32 : Int32)) + x5).toNatClampNeg)).toInt := by rw [ew212_]
          refine okk_gl (fun w315_ ew315_ => ?_)
          have t16_ : w315_.toInt = ((x4.toUInt32 >>> (Int32.toUInt32 (1 : Int32) &&& Int32.toUInt32 31)).toInt32).toInt := by rw [ew315_]
          have t17_ : (x5 + (1 : Int32)).toInt = (x5.toInt + (1 : Int)) := (oi_add (a := x5) (b := (1 : Int32)) rfl (by decide : (1 : Int32).toInt = 1) (by omega) (by omega))
          exact ih x1 w212_ w315_ (x5 + (1 : Int32)) (by omega) (by omega) (by omega) (by omega) (by omega)
set_option maxHeartbeats 4000000 in
theorem okk_fcU_weigh {g : Nat → Int32} {u : g_S} (I : IC g u) {p1 : Int32} {p2 : Int32} (h0 : 0 ≤ p1.toInt) (h1 : p1.toInt ≤ 7) : okk (fcU_weigh u p1 p2) (fun r => True) := by
  unfold fcU_weigh
  have z1_ := IC_s I
  have t2_ : (0 : Int32).toInt = (0 : Int) := (by decide : (0 : Int32).toInt = 0)
  exact okk_fcU_weigh_8 I 200 p1 (0 : Int32) p2 (0 : Int32) (by omega) (by omega) (by omega) (by omega) (by omega)
set_option maxHeartbeats 4000000 in
theorem okk_fcU_meetsNeed {g : Nat → Int32} {u : g_S} (I : IC g u) {p1 : Int32} {p2 : Int32} {p3 : Int32} (h0 : 0 ≤ p1.toInt) (h1 : p1.toInt ≤ 7) : okk (fcU_meetsNeed u p1 p2 p3) (fun r => True) := by
  unfold fcU_meetsNeed
  have z1_ := IC_s I
  refine okk_ck (vp_I (by omega) (by omega)) ?_
  refine okk_ck (vp_I (by omega) (by omega)) ?_
  try have t3_ : (p2 * (u.2 3 p1.toNatClampNeg)).toInt = (p2.toInt * (u.2 3 p1.toNatClampNeg).toInt) := (oi_mul (a := p2) (b := (u.2 3 p1.toNatClampNeg)) rfl rfl (by omega) (by omega))
  try have t4_ : ((u.2 2 p1.toNatClampNeg) * p3).toInt = ((u.2 2 p1.toNatClampNeg).toInt * p3.toInt) := (oi_mul (a := (u.2 2 p1.toNatClampNeg)) (b := p3) rfl rfl (by omega) (by omega))
  refine okk_lt (fun c2_ c2_I => ?_) (fun c2_ c2_I => ?_)
  · exact okk_some (trivial)
  · exact okk_some (trivial)
set_option maxHeartbeats 4000000 in
theorem okk_fcJ_isInOpenEvent {g : Nat → Int32} {u : g_S} (I : IC g u) {p1 : Int32} (h0 : 0 ≤ p1.toInt) (h1 : p1.toInt ≤ 120) : okk (fcJ_isInOpenEvent u p1) (fun r => True) := by
  unfold fcJ_isInOpenEvent
  have z1_ := IC_s I
  refine okk_ck (vp_I (by omega) (by omega)) ?_
  have r2_ := IC_r13 I p1.toNatClampNeg
  refine okk_ck (vp_I (by omega) (by omega)) ?_
  try have t4_ : (0 : Int32).toInt = (0 : Int) := (by decide : (0 : Int32).toInt = 0)
  refine okk_ne (fun c3_ c3_I => ?_) (fun c3_ c3_I => ?_)
  · exact okk_some (trivial)
  · exact okk_some (trivial)
set_option maxHeartbeats 4000000 in
theorem okk_fcJ_canBeReason {g : Nat → Int32} {u : g_S} (I : IC g u) {p1 : Int32} (h0 : 0 ≤ p1.toInt) (h1 : p1.toInt ≤ 120) : okk (fcJ_canBeReason u p1) (fun r => True) := by
  unfold fcJ_canBeReason
  have z1_ := IC_s I
  refine okk_bi (okk_fcA_isHoax I (by omega) (by omega)) (fun v2_ hv2_ => ?_)
  have p3_ := hv2_
  try have t5_ : (0 : Int32).toInt = (0 : Int) := (by decide : (0 : Int32).toInt = 0)
  refine okk_ne (fun c4_ c4_I => ?_) (fun c4_ c4_I => ?_)
  · exact okk_some (trivial)
  · refine okk_bi (okk_fcJ_isInOpenEvent I (by omega) (by omega)) (fun v6_ hv6_ => ?_)
    have p7_ := hv6_
    refine okk_eq (fun c8_ c8_I => ?_) (fun c8_ c8_I => ?_)
    · exact okk_some (trivial)
    · exact okk_some (trivial)
set_option maxHeartbeats 4000000 in
theorem okk_fcJ_isWithinSpan {g : Nat → Int32} {u : g_S} (I : IC g u) {p1 : Int32} {p2 : Int32} (h0 : 0 ≤ p1.toInt) (h1 : p1.toInt ≤ 120) (h2 : 0 ≤ p2.toInt) (h3 : p2.toInt ≤ 120) : okk (fcJ_isWithinSpan u p1 p2) (fun r => True) := by
  unfold fcJ_isWithinSpan
  have z1_ := IC_s I
  refine okk_ck (vp_I (by omega) (by omega)) ?_
  refine okk_ck (vp_I (by omega) (by omega)) ?_
  refine okk_ck (vp_I (by omega) (by omega)) ?_
  have r2_ := IC_r8 I p2.toNatClampNeg
  refine okk_ck (vp_I (by omega) (by omega)) ?_
  try have t4_ : ((u.2 12 p2.toNatClampNeg) - (u.2 12 p1.toNatClampNeg)).toInt = ((u.2 12 p2.toNatClampNeg).toInt - (u.2 12 p1.toNatClampNeg).toInt) := (oi_sub (a := (u.2 12 p2.toNatClampNeg)) (b := (u.2 12 p1.toNatClampNeg)) rfl rfl (by omega) (by omega))
  refine okk_lt (fun c3_ c3_I => ?_) (fun c3_ c3_I => ?_)
  · exact okk_some (trivial)
  · exact okk_some (trivial)
set_option maxHeartbeats 4000000 in
theorem okk_fcJ_latestOfLine_10 {g : Nat → Int32} {u : g_S} (I : IC g u) : ∀ (n : Nat) (x1 : Int32) (x2 : Int32), -1 ≤ x2.toInt → x2.toInt ≤ 119 → 0 ≤ x1.toInt → x1.toInt ≤ 120 → x2.toInt + 2 ≤ (n : Int) → okk (fcJ_latestOfLine_10 u n x1 x2) (fun r => (-1 ≤ r.toInt ∧ r.toInt ≤ 119)) := by
  intro n
  induction n with
  | zero =>
    intro x1 x2 h0 h1 h2 h3 hf
    exfalso; omega
  | succ n ih =>
    intro x1 x2 h0 h1 h2 h3 hf
    rw [fcJ_latestOfLine_10_s]
    have z1_ := IC_s I
    try have t3_ : (0 : Int32).toInt = (0 : Int) := (by decide : (0 : Int32).toInt = 0)
    refine okk_lt (fun c2_ c2_I => ?_) (fun c2_ c2_I => ?_)
    · try have t4_ : (-1 : Int32).toInt = (-1 : Int) := (by decide : (-1 : Int32).toInt = -1)
      exact okk_some ((by show -1 ≤ (-1 : Int32).toInt ∧ (-1 : Int32).toInt ≤ 119; omega))
    · refine okk_ck (vp_I (by omega) (by omega)) ?_
      refine okk_ck (vp_I (by omega) (by omega)) ?_
      refine okk_ne (fun c5_ c5_I => ?_) (fun c5_ c5_I => ?_)
      · have t6_ : (x2 + (-1 : Int32)).toInt = (x2.toInt + (-1 : Int)) := (oi_add (a := x2) (b := (-1 : Int32)) rfl (by decide : (-1 : Int32).toInt = -1) (by omega) (by omega))
        exact ih x1 (x2 + (-1 : Int32)) (by omega) (by omega) (by omega) (by omega) (by omega)
      · refine okk_bi (okk_fcJ_canBeReason I (by omega) (by omega)) (fun v7_ hv7_ => ?_)
        have p8_ := hv7_
        refine okk_eq (fun c9_ c9_I => ?_) (fun c9_ c9_I => ?_)
        · have t10_ : (x2 + (-1 : Int32)).toInt = (x2.toInt + (-1 : Int)) := (oi_add (a := x2) (b := (-1 : Int32)) rfl (by decide : (-1 : Int32).toInt = -1) (by omega) (by omega))
          exact ih x1 (x2 + (-1 : Int32)) (by omega) (by omega) (by omega) (by omega) (by omega)
        · refine okk_bi (okk_fcJ_isWithinSpan I (by omega) (by omega) (by omega) (by omega)) (fun v11_ hv11_ => ?_)
          have p12_ := hv11_
          refine okk_eq (fun c13_ c13_I => ?_) (fun c13_ c13_I => ?_)
          · try have t14_ : (-1 : Int32).toInt = (-1 : Int) := (by decide : (-1 : Int32).toInt = -1)
            exact okk_some ((by show -1 ≤ (-1 : Int32).toInt ∧ (-1 : Int32).toInt ≤ 119; omega))
          · exact okk_some ((by show -1 ≤ x2.toInt ∧ x2.toInt ≤ 119; omega))
set_option maxHeartbeats 4000000 in
theorem okk_fcJ_latestOfLine {g : Nat → Int32} {u : g_S} (I : IC g u) {p1 : Int32} (h0 : 0 ≤ p1.toInt) (h1 : p1.toInt ≤ 120) : okk (fcJ_latestOfLine u p1) (fun r => (-1 ≤ r.toInt ∧ r.toInt ≤ 119)) := by
  unfold fcJ_latestOfLine
  have z1_ := IC_s I
  try have t3_ : ((u.1 0) - (1 : Int32)).toInt = ((u.1 0).toInt - (1 : Int)) := (oi_sub (a := (u.1 0)) (b := (1 : Int32)) rfl (by decide : (1 : Int32).toInt = 1) (by omega) (by omega))
  refine okk_gl (fun w12_ ew12_ => ?_)
  have t4_ : w12_.toInt = ((u.1 0) - (1 : Int32)).toInt := by rw [ew12_]
  exact okk_fcJ_latestOfLine_10 I 200 p1 w12_ (by omega) (by omega) (by omega) (by omega) (by omega)
set_option maxHeartbeats 4000000 in
theorem okk_fcJ_takeReason {g : Nat → Int32} {u : g_S} (I : IC g u) {p1 : Int32} {p2 : Int32} {p3 : Int32} (h0 : 0 ≤ p1.toInt) (h1 : p1.toInt ≤ 120) (h2 : -1 ≤ p2.toInt) (h3 : p2.toInt ≤ 120) : okk (fcJ_takeReason u p1 p2 p3) (fun r => IC g r.2 ∧ ((r.2.1 0).toInt = (u.1 0).toInt) ∧ ((r.2.1 1).toInt = (u.1 1).toInt)) := by
  unfold fcJ_takeReason
  have z1_ := IC_s I
  try have t3_ : (-1 : Int32).toInt = (-1 : Int) := (by decide : (-1 : Int32).toInt = -1)
  refine okk_ne (fun c2_ c2_I => ?_) (fun c2_ c2_I => ?_)
  · refine okk_ck (vp_I (by omega) (by omega)) ?_
    refine okk_gl (fun u14_ eu14_ => ?_)
    have Iu14_ : IC g u14_ := by rw [eu14_]; exact IC_v14 I _ _ (by omega) (by omega)
    have z5_ : (u14_.1 0).toInt = (u.1 0).toInt := by rw [eu14_]; rfl
    have z6_ : (u14_.1 1).toInt = (u.1 1).toInt := by rw [eu14_]; rfl
    refine okk_ck (vp_I (by omega) (by omega)) ?_
    refine okk_gl (fun u27_ eu27_ => ?_)
    have Iu27_ : IC g u27_ := by rw [eu27_]; exact IC_wx Iu14_ 15 _ _ rfl rfl (by decide)
    have z8_ : (u27_.1 0).toInt = (u14_.1 0).toInt := by rw [eu27_]; rfl
    have z9_ : (u27_.1 1).toInt = (u14_.1 1).toInt := by rw [eu27_]; rfl
    try have t10_ : (1 : Int32).toInt = (1 : Int) := (by decide : (1 : Int32).toInt = 1)
    exact okk_some (⟨Iu27_, (by show (u27_.1 0).toInt = (u.1 0).toInt; omega), (by show (u27_.1 1).toInt = (u.1 1).toInt; omega)⟩)
  · try have t11_ : (0 : Int32).toInt = (0 : Int) := (by decide : (0 : Int32).toInt = 0)
    exact okk_some (⟨I, (by show (u.1 0).toInt = (u.1 0).toInt; omega), (by show (u.1 1).toInt = (u.1 1).toInt; omega)⟩)
set_option maxHeartbeats 4000000 in
theorem okk_fcJ_isOnStretch {g : Nat → Int32} {u : g_S} (I : IC g u) {p1 : Int32} {p2 : Int32} (h0 : 0 ≤ p1.toInt) (h1 : p1.toInt ≤ 120) (h2 : 0 ≤ p2.toInt) (h3 : p2.toInt ≤ 59) (h4 : 0 ≤ (u.2 20 p2.toNatClampNeg).toInt) : okk (fcJ_isOnStretch u p1 p2) (fun r => True) := by
  unfold fcJ_isOnStretch
  have z1_ := IC_s I
  refine okk_ck (vp_I (by omega) (by omega)) ?_
  have r3_ := IC_r20 I p2.toNatClampNeg
  refine okk_gl (fun w12_ ew12_ => ?_)
  have t4_ : w12_.toInt = (u.2 20 p2.toNatClampNeg).toInt := by rw [ew12_]
  refine okk_ck (vp_I (by omega) (by omega)) ?_
  refine okk_gl (fun w25_ ew25_ => ?_)
  have t6_ : w25_.toInt = (u.2 9 p1.toNatClampNeg).toInt := by rw [ew25_]
  try have t8_ : (-1 : Int32).toInt = (-1 : Int) := (by decide : (-1 : Int32).toInt = -1)
  refine okk_ne (fun c7_ c7_I => ?_) (fun c7_ c7_I => ?_)
  · refine okk_ck (vp_I (by omega) (by omega)) ?_
    refine okk_ck (vp_I (by omega) (by omega)) ?_
    have r9_ := IC_r21 I p2.toNatClampNeg
    have r10_ := IC_r22 I p2.toNatClampNeg
    refine okk_bi (okk_fcR_isNear I (by omega) (by omega) (by omega) (by omega) (by omega)) (fun v11_ hv11_ => ?_)
    obtain ⟨p12_, p12_I⟩ := hv11_
    refine okk_t p12_ ?_
    exact okk_some (trivial)
  · refine okk_ck (vp_I (by omega) (by omega)) ?_
    refine okk_ne (fun c13_ c13_I => ?_) (fun c13_ c13_I => ?_)
    · exact okk_some (trivial)
    · exact okk_some (trivial)
end
section
set_option maxHeartbeats 4000000 in
theorem okk_fcJ_firstOnStretch_2 {g : Nat → Int32} {u : g_S} (I : IC g u) : ∀ (n : Nat) (x1 : Int32) (x2 : Int32), 0 ≤ x2.toInt → x2.toInt ≤ 60 → 0 ≤ x1.toInt → x1.toInt ≤ 120 → 61 ≤ (n : Int) + x2.toInt → okk (fcJ_firstOnStretch_2 u n x1 x2) (fun r => (-1 ≤ r.toInt ∧ r.toInt ≤ 120)) := by
  intro n
  induction n with
  | zero =>
    intro x1 x2 h0 h1 h2 h3 hf
    exfalso; omega
  | succ n ih =>
    intro x1 x2 h0 h1 h2 h3 hf
    rw [fcJ_firstOnStretch_2_s]
    have z1_ := IC_s I
    refine okk_le (fun c2_ c2_I => ?_) (fun c2_ c2_I => ?_)
    · try have t3_ : (-1 : Int32).toInt = (-1 : Int) := (by decide : (-1 : Int32).toInt = -1)
      exact okk_some ((by show -1 ≤ (-1 : Int32).toInt ∧ (-1 : Int32).toInt ≤ 120; omega))
    · refine okk_ck (vp_I (by omega) (by omega)) ?_
      refine okk_bi (okk_fcE_isWatchedFor I (by omega) (by omega)) (fun v4_ hv4_ => ?_)
      have p5_ := hv4_
      try have t7_ : (0 : Int32).toInt = (0 : Int) := (by decide : (0 : Int32).toInt = 0)
      refine okk_eq (fun c6_ c6_I => ?_) (fun c6_ c6_I => ?_)
      · have t8_ : (x2 + (1 : Int32)).toInt = (x2.toInt + (1 : Int)) := (oi_add (a := x2) (b := (1 : Int32)) rfl (by decide : (1 : Int32).toInt = 1) (by omega) (by omega))
        exact ih x1 (x2 + (1 : Int32)) (by omega) (by omega) (by omega) (by omega) (by omega)
      · have r9_ := IC_r20 I x2.toNatClampNeg
        refine okk_bi (okk_fcJ_isOnStretch I (by omega) (by omega) (by omega) (by omega) (by omega)) (fun v10_ hv10_ => ?_)
        have p11_ := hv10_
        refine okk_eq (fun c12_ c12_I => ?_) (fun c12_ c12_I => ?_)
        · have t13_ : (x2 + (1 : Int32)).toInt = (x2.toInt + (1 : Int)) := (oi_add (a := x2) (b := (1 : Int32)) rfl (by decide : (1 : Int32).toInt = 1) (by omega) (by omega))
          exact ih x1 (x2 + (1 : Int32)) (by omega) (by omega) (by omega) (by omega) (by omega)
        · refine okk_ck (vp_I (by omega) (by omega)) ?_
          have r14_ := IC_r19 I x2.toNatClampNeg
          exact okk_some ((by show -1 ≤ (u.2 19 x2.toNatClampNeg).toInt ∧ (u.2 19 x2.toNatClampNeg).toInt ≤ 120; omega))
set_option maxHeartbeats 4000000 in
theorem okk_fcJ_firstOnStretch {g : Nat → Int32} {u : g_S} (I : IC g u) {p1 : Int32} (h0 : 0 ≤ p1.toInt) (h1 : p1.toInt ≤ 120) : okk (fcJ_firstOnStretch u p1) (fun r => (-1 ≤ r.toInt ∧ r.toInt ≤ 120)) := by
  unfold fcJ_firstOnStretch
  have z1_ := IC_s I
  have t2_ : (0 : Int32).toInt = (0 : Int) := (by decide : (0 : Int32).toInt = 0)
  exact okk_fcJ_firstOnStretch_2 I 200 p1 (0 : Int32) (by omega) (by omega) (by omega) (by omega) (by omega)
set_option maxHeartbeats 4000000 in
theorem okk_fcJ_isCandidate {g : Nat → Int32} {u : g_S} (I : IC g u) {p1 : Int32} {p2 : Int32} (h0 : 0 ≤ p1.toInt) (h1 : p1.toInt ≤ 120) (h2 : 0 ≤ p2.toInt) (h3 : p2.toInt ≤ 120) : okk (fcJ_isCandidate u p1 p2) (fun r => True) := by
  unfold fcJ_isCandidate
  have z1_ := IC_s I
  refine okk_ck (vp_I (by omega) (by omega)) ?_
  refine okk_ck (vp_I (by omega) (by omega)) ?_
  have r3_ := IC_r8 I p1.toNatClampNeg
  have r4_ := IC_r8 I p2.toNatClampNeg
  refine okk_ne (fun c2_ c2_I => ?_) (fun c2_ c2_I => ?_)
  · exact okk_some (trivial)
  · refine okk_bi (okk_fcJ_canBeReason I (by omega) (by omega)) (fun v5_ hv5_ => ?_)
    have p6_ := hv5_
    try have t8_ : (0 : Int32).toInt = (0 : Int) := (by decide : (0 : Int32).toInt = 0)
    refine okk_eq (fun c7_ c7_I => ?_) (fun c7_ c7_I => ?_)
    · exact okk_some (trivial)
    · exact okk_some (trivial)
set_option maxHeartbeats 4000000 in
theorem okk_fcJ_agreement {g : Nat → Int32} {u : g_S} (I : IC g u) {p1 : Int32} {p2 : Int32} (h0 : 0 ≤ p1.toInt) (h1 : p1.toInt ≤ 120) (h2 : 0 ≤ p2.toInt) (h3 : p2.toInt ≤ 120) : okk (fcJ_agreement u p1 p2) (fun r => True) := by
  unfold fcJ_agreement
  have z1_ := IC_s I
  refine okk_bi (okk_fcJ_isWithinSpan I (by omega) (by omega) (by omega) (by omega)) (fun v2_ hv2_ => ?_)
  have p3_ := hv2_
  try have t5_ : (0 : Int32).toInt = (0 : Int) := (by decide : (0 : Int32).toInt = 0)
  refine okk_ne (fun c4_ c4_I => ?_) (fun c4_ c4_I => ?_)
  · refine okk_ck (vp_I (by omega) (by omega)) ?_
    have r7_ := IC_r8 I p2.toNatClampNeg
    refine okk_gl (fun w26_ ew26_ => ?_)
    have t8_ : w26_.toInt = (u.2 8 p2.toNatClampNeg).toInt := by rw [ew26_]
    refine okk_ck (vp_I (by omega) (by omega)) ?_
    refine okk_ck (vp_I (by omega) (by omega)) ?_
    refine okk_bi (okk_fcU_weigh I (by omega) (by omega)) (fun v9_ hv9_ => ?_)
    have p10_ := hv9_
    refine okk_ck (vp_I (by omega) (by omega)) ?_
    refine okk_ck (vp_I (by omega) (by omega)) ?_
    refine okk_bi (okk_fcU_weigh I (by omega) (by omega)) (fun v11_ hv11_ => ?_)
    have p12_ := hv11_
    refine okk_le (fun c13_ c13_I => ?_) (fun c13_ c13_I => ?_)
    · unfold fcJ_agreement_89
      refine okk_t (by decide) ?_
      unfold fcJ_agreement_116
      refine okk_ck (vp_I (by omega) (by omega)) ?_
      try have t15_ : (-1 : Int32).toInt = (-1 : Int) := (by decide : (-1 : Int32).toInt = -1)
      refine okk_eq (fun c14_ c14_I => ?_) (fun c14_ c14_I => ?_)
      · unfold fcJ_agreement_144
        refine okk_t (by decide) ?_
        exact okk_some (trivial)
      · refine okk_ck (vp_I (by omega) (by omega)) ?_
        refine okk_ne (fun c16_ c16_I => ?_) (fun c16_ c16_I => ?_)
        · refine okk_ck (vp_I (by omega) (by omega)) ?_
          refine okk_ck (vp_I (by omega) (by omega)) ?_
          refine okk_bi (okk_fcJ_squareBetween ) (fun v17_ hv17_ => ?_)
          have p18_ := hv17_
          refine okk_ck (vp_I (by omega) (by omega)) ?_
          refine okk_ck (vp_I (by omega) (by omega)) ?_
          refine okk_gl (fun w619_ ew619_ => ?_)
          refine okk_t (by decide) ?_
          refine okk_lt (fun c20_ c20_I => ?_) (fun c20_ c20_I => ?_)
          · unfold fcJ_agreement_244
            refine okk_t (by decide) ?_
            exact okk_some (trivial)
          · unfold fcJ_agreement_244
            refine okk_f (by decide) ?_
            exact okk_some (trivial)
        · unfold fcJ_agreement_144
          refine okk_t (by decide) ?_
          exact okk_some (trivial)
    · unfold fcJ_agreement_89
      refine okk_f (by decide) ?_
      refine okk_bi (okk_fcU_meetsNeed I (by omega) (by omega)) (fun v21_ hv21_ => ?_)
      have p22_ := hv21_
      refine okk_eq (fun c23_ c23_I => ?_) (fun c23_ c23_I => ?_)
      · unfold fcJ_agreement_116
        refine okk_ck (vp_I (by omega) (by omega)) ?_
        try have t25_ : (-1 : Int32).toInt = (-1 : Int) := (by decide : (-1 : Int32).toInt = -1)
        refine okk_eq (fun c24_ c24_I => ?_) (fun c24_ c24_I => ?_)
        · unfold fcJ_agreement_144
          refine okk_t (by decide) ?_
          exact okk_some (trivial)
        · refine okk_ck (vp_I (by omega) (by omega)) ?_
          refine okk_ne (fun c26_ c26_I => ?_) (fun c26_ c26_I => ?_)
          · refine okk_ck (vp_I (by omega) (by omega)) ?_
            refine okk_ck (vp_I (by omega) (by omega)) ?_
            refine okk_bi (okk_fcJ_squareBetween ) (fun v27_ hv27_ => ?_)
            have p28_ := hv27_
            refine okk_ck (vp_I (by omega) (by omega)) ?_
            refine okk_ck (vp_I (by omega) (by omega)) ?_
            refine okk_gl (fun w629_ ew629_ => ?_)
            refine okk_f (by decide) ?_
            refine okk_t (by decide) ?_
            unfold fcJ_agreement_244
            refine okk_t (by decide) ?_
            exact okk_some (trivial)
          · unfold fcJ_agreement_144
            refine okk_t (by decide) ?_
            exact okk_some (trivial)
      · unfold fcJ_agreement_116
        refine okk_ck (vp_I (by omega) (by omega)) ?_
        try have t31_ : (-1 : Int32).toInt = (-1 : Int) := (by decide : (-1 : Int32).toInt = -1)
        refine okk_eq (fun c30_ c30_I => ?_) (fun c30_ c30_I => ?_)
        · unfold fcJ_agreement_144
          refine okk_f (by decide) ?_
          exact okk_some (trivial)
        · refine okk_ck (vp_I (by omega) (by omega)) ?_
          refine okk_ne (fun c32_ c32_I => ?_) (fun c32_ c32_I => ?_)
          · refine okk_ck (vp_I (by omega) (by omega)) ?_
            refine okk_ck (vp_I (by omega) (by omega)) ?_
            refine okk_bi (okk_fcJ_squareBetween ) (fun v33_ hv33_ => ?_)
            have p34_ := hv33_
            refine okk_ck (vp_I (by omega) (by omega)) ?_
            refine okk_ck (vp_I (by omega) (by omega)) ?_
            refine okk_gl (fun w635_ ew635_ => ?_)
            refine okk_f (by decide) ?_
            refine okk_f (by decide) ?_
            refine okk_lt (fun c36_ c36_I => ?_) (fun c36_ c36_I => ?_)
            · unfold fcJ_agreement_244
              refine okk_t (by decide) ?_
              exact okk_some (trivial)
            · unfold fcJ_agreement_244
              refine okk_f (by decide) ?_
              exact okk_some (trivial)
          · unfold fcJ_agreement_144
            refine okk_f (by decide) ?_
            exact okk_some (trivial)
  · exact okk_some (trivial)
set_option maxHeartbeats 4000000 in
theorem okk_fcJ_nearestByPlace_7 {g : Nat → Int32} {u : g_S} (I : IC g u) : ∀ (n : Nat) (x1 : Int32) (x2 : Int32) (x3 : Int64) (x5 : Int32), 0 ≤ x5.toInt → x5.toInt ≤ 120 → 0 ≤ x1.toInt → x1.toInt ≤ 120 → -1 ≤ x2.toInt → x2.toInt ≤ 119 → 121 ≤ (n : Int) + x5.toInt → okk (fcJ_nearestByPlace_7 u n x1 x2 x3 x5) (fun r => (-1 ≤ r.toInt ∧ r.toInt ≤ 119)) := by
  intro n
  induction n with
  | zero =>
    intro x1 x2 x3 x5 h0 h1 h2 h3 h4 h5 hf
    exfalso; omega
  | succ n ih =>
    intro x1 x2 x3 x5 h0 h1 h2 h3 h4 h5 hf
    rw [fcJ_nearestByPlace_7_s]
    have z1_ := IC_s I
    refine okk_le (fun c2_ c2_I => ?_) (fun c2_ c2_I => ?_)
    · exact okk_some ((by show -1 ≤ x2.toInt ∧ x2.toInt ≤ 119; omega))
    · refine okk_bi (okk_fcJ_isCandidate I (by omega) (by omega) (by omega) (by omega)) (fun v3_ hv3_ => ?_)
      have p4_ := hv3_
      try have t6_ : (0 : Int32).toInt = (0 : Int) := (by decide : (0 : Int32).toInt = 0)
      refine okk_eq (fun c5_ c5_I => ?_) (fun c5_ c5_I => ?_)
      · have t7_ : (x5 + (1 : Int32)).toInt = (x5.toInt + (1 : Int)) := (oi_add (a := x5) (b := (1 : Int32)) rfl (by decide : (1 : Int32).toInt = 1) (by omega) (by omega))
        exact ih x1 x2 x3 (x5 + (1 : Int32)) (by omega) (by omega) (by omega) (by omega) (by omega) (by omega) (by omega)
      · refine okk_bi (okk_fcJ_agreement I (by omega) (by omega) (by omega) (by omega)) (fun v8_ hv8_ => ?_)
        have p9_ := hv8_
        try have t11_ : (1 : Int32).toInt = (1 : Int) := (by decide : (1 : Int32).toInt = 1)
        refine okk_ne (fun c10_ c10_I => ?_) (fun c10_ c10_I => ?_)
        · have t12_ : (x5 + (1 : Int32)).toInt = (x5.toInt + (1 : Int)) := (oi_add (a := x5) (b := (1 : Int32)) rfl (by decide : (1 : Int32).toInt = 1) (by omega) (by omega))
          exact ih x1 x2 x3 (x5 + (1 : Int32)) (by omega) (by omega) (by omega) (by omega) (by omega) (by omega) (by omega)
        · refine okk_ck (vp_I (by omega) (by omega)) ?_
          refine okk_ck (vp_I (by omega) (by omega)) ?_
          refine okk_bi (okk_fcJ_squareBetween ) (fun v13_ hv13_ => ?_)
          have p14_ := hv13_
          try have t16_ : (-1 : Int32).toInt = (-1 : Int) := (by decide : (-1 : Int32).toInt = -1)
          refine okk_eq (fun c15_ c15_I => ?_) (fun c15_ c15_I => ?_)
          · have t17_ : (x5 + (1 : Int32)).toInt = (x5.toInt + (1 : Int)) := (oi_add (a := x5) (b := (1 : Int32)) rfl (by decide : (1 : Int32).toInt = 1) (by omega) (by omega))
            exact ih x1 x5 v13_ (x5 + (1 : Int32)) (by omega) (by omega) (by omega) (by omega) (by omega) (by omega) (by omega)
          · refine okk_le (fun c18_ c18_I => ?_) (fun c18_ c18_I => ?_)
            · have t19_ : (x5 + (1 : Int32)).toInt = (x5.toInt + (1 : Int)) := (oi_add (a := x5) (b := (1 : Int32)) rfl (by decide : (1 : Int32).toInt = 1) (by omega) (by omega))
              exact ih x1 x2 x3 (x5 + (1 : Int32)) (by omega) (by omega) (by omega) (by omega) (by omega) (by omega) (by omega)
            · have t20_ : (x5 + (1 : Int32)).toInt = (x5.toInt + (1 : Int)) := (oi_add (a := x5) (b := (1 : Int32)) rfl (by decide : (1 : Int32).toInt = 1) (by omega) (by omega))
              exact ih x1 x5 v13_ (x5 + (1 : Int32)) (by omega) (by omega) (by omega) (by omega) (by omega) (by omega) (by omega)
set_option maxHeartbeats 4000000 in
theorem okk_fcJ_nearestByPlace {g : Nat → Int32} {u : g_S} (I : IC g u) {p1 : Int32} (h0 : 0 ≤ p1.toInt) (h1 : p1.toInt ≤ 120) : okk (fcJ_nearestByPlace u p1) (fun r => (-1 ≤ r.toInt ∧ r.toInt ≤ 119)) := by
  unfold fcJ_nearestByPlace
  have z1_ := IC_s I
  have t2_ : (-1 : Int32).toInt = (-1 : Int) := (by decide : (-1 : Int32).toInt = -1)
  have t3_ : (0 : Int32).toInt = (0 : Int) := (by decide : (0 : Int32).toInt = 0)
  exact okk_fcJ_nearestByPlace_7 I 200 p1 (-1 : Int32) (0 : Int64) (0 : Int32) (by omega) (by omega) (by omega) (by omega) (by omega) (by omega) (by omega)
set_option maxHeartbeats 4000000 in
theorem okk_fcJ_greatestShare_21 {g : Nat → Int32} {u : g_S} (I : IC g u) : ∀ (n : Nat) (x1 : Int32) (x2 : Int32) (x3 : Int32) (x4 : Int32) (x5 : Int32) (x6 : Int32), 0 ≤ x6.toInt → x6.toInt ≤ 120 → 0 ≤ x1.toInt → x1.toInt ≤ 120 → 0 ≤ x2.toInt → x2.toInt ≤ 7 → -1 ≤ x3.toInt → x3.toInt ≤ 119 → 121 ≤ (n : Int) + x6.toInt → okk (fcJ_greatestShare_21 u n x1 x2 x3 x4 x5 x6) (fun r => (-1 ≤ r.toInt ∧ r.toInt ≤ 119)) := by
  intro n
  induction n with
  | zero =>
    intro x1 x2 x3 x4 x5 x6 h0 h1 h2 h3 h4 h5 h6 h7 hf
    exfalso; omega
  | succ n ih =>
    intro x1 x2 x3 x4 x5 x6 h0 h1 h2 h3 h4 h5 h6 h7 hf
    rw [fcJ_greatestShare_21_s]
    have z1_ := IC_s I
    refine okk_le (fun c2_ c2_I => ?_) (fun c2_ c2_I => ?_)
    · exact okk_some ((by show -1 ≤ x3.toInt ∧ x3.toInt ≤ 119; omega))
    · refine okk_bi (okk_fcJ_isCandidate I (by omega) (by omega) (by omega) (by omega)) (fun v3_ hv3_ => ?_)
      have p4_ := hv3_
      try have t6_ : (0 : Int32).toInt = (0 : Int) := (by decide : (0 : Int32).toInt = 0)
      refine okk_eq (fun c5_ c5_I => ?_) (fun c5_ c5_I => ?_)
      · have t7_ : (x6 + (1 : Int32)).toInt = (x6.toInt + (1 : Int)) := (oi_add (a := x6) (b := (1 : Int32)) rfl (by decide : (1 : Int32).toInt = 1) (by omega) (by omega))
        exact ih x1 x2 x3 x4 x5 (x6 + (1 : Int32)) (by omega) (by omega) (by omega) (by omega) (by omega) (by omega) (by omega) (by omega) (by omega)
      · refine okk_bi (okk_fcJ_agreement I (by omega) (by omega) (by omega) (by omega)) (fun v8_ hv8_ => ?_)
        have p9_ := hv8_
        try have t11_ : (2 : Int32).toInt = (2 : Int) := (by decide : (2 : Int32).toInt = 2)
        refine okk_ne (fun c10_ c10_I => ?_) (fun c10_ c10_I => ?_)
        · have t12_ : (x6 + (1 : Int32)).toInt = (x6.toInt + (1 : Int)) := (oi_add (a := x6) (b := (1 : Int32)) rfl (by decide : (1 : Int32).toInt = 1) (by omega) (by omega))
          exact ih x1 x2 x3 x4 x5 (x6 + (1 : Int32)) (by omega) (by omega) (by omega) (by omega) (by omega) (by omega) (by omega) (by omega) (by omega)
        · refine okk_ck (vp_I (by omega) (by omega)) ?_
          refine okk_ck (vp_I (by omega) (by omega)) ?_
          refine okk_bi (okk_fcU_weigh I (by omega) (by omega)) (fun v13_ hv13_ => ?_)
          have p14_ := hv13_
          refine okk_ck (vp_I (by omega) (by omega)) ?_
          refine okk_ck (vp_I (by omega) (by omega)) ?_
          refine okk_bi (okk_fcU_weigh I (by omega) (by omega)) (fun v15_ hv15_ => ?_)
          have p16_ := hv15_
          try have t18_ : (-1 : Int32).toInt = (-1 : Int) := (by decide : (-1 : Int32).toInt = -1)
          refine okk_eq (fun c17_ c17_I => ?_) (fun c17_ c17_I => ?_)
          · have t19_ : (x6 + (1 : Int32)).toInt = (x6.toInt + (1 : Int)) := (oi_add (a := x6) (b := (1 : Int32)) rfl (by decide : (1 : Int32).toInt = 1) (by omega) (by omega))
            exact ih x1 x2 x6 v13_ v15_ (x6 + (1 : Int32)) (by omega) (by omega) (by omega) (by omega) (by omega) (by omega) (by omega) (by omega) (by omega)
          · try have t21_ : (v13_ * x5).toInt = (v13_.toInt * x5.toInt) := (oi_mul (a := v13_) (b := x5) rfl rfl (by omega) (by omega))
            try have t22_ : (x4 * v15_).toInt = (x4.toInt * v15_.toInt) := (oi_mul (a := x4) (b := v15_) rfl rfl (by omega) (by omega))
            refine okk_le (fun c20_ c20_I => ?_) (fun c20_ c20_I => ?_)
            · have t23_ : (x6 + (1 : Int32)).toInt = (x6.toInt + (1 : Int)) := (oi_add (a := x6) (b := (1 : Int32)) rfl (by decide : (1 : Int32).toInt = 1) (by omega) (by omega))
              exact ih x1 x2 x3 x4 x5 (x6 + (1 : Int32)) (by omega) (by omega) (by omega) (by omega) (by omega) (by omega) (by omega) (by omega) (by omega)
            · have t24_ : (x6 + (1 : Int32)).toInt = (x6.toInt + (1 : Int)) := (oi_add (a := x6) (b := (1 : Int32)) rfl (by decide : (1 : Int32).toInt = 1) (by omega) (by omega))
              exact ih x1 x2 x6 v13_ v15_ (x6 + (1 : Int32)) (by omega) (by omega) (by omega) (by omega) (by omega) (by omega) (by omega) (by omega) (by omega)
set_option maxHeartbeats 4000000 in
theorem okk_fcJ_greatestShare {g : Nat → Int32} {u : g_S} (I : IC g u) {p1 : Int32} (h0 : 0 ≤ p1.toInt) (h1 : p1.toInt ≤ 120) : okk (fcJ_greatestShare u p1) (fun r => (-1 ≤ r.toInt ∧ r.toInt ≤ 119)) := by
  unfold fcJ_greatestShare
  have z1_ := IC_s I
  refine okk_ck (vp_I (by omega) (by omega)) ?_
  have r3_ := IC_r8 I p1.toNatClampNeg
  refine okk_gl (fun w12_ ew12_ => ?_)
  have t4_ : w12_.toInt = (u.2 8 p1.toNatClampNeg).toInt := by rw [ew12_]
  have t5_ : (-1 : Int32).toInt = (-1 : Int) := (by decide : (-1 : Int32).toInt = -1)
  have t6_ : (0 : Int32).toInt = (0 : Int) := (by decide : (0 : Int32).toInt = 0)
  exact okk_fcJ_greatestShare_21 I 200 p1 w12_ (-1 : Int32) (0 : Int32) (1 : Int32) (0 : Int32) (by omega) (by omega) (by omega) (by omega) (by omega) (by omega) (by omega) (by omega) (by omega)
set_option maxHeartbeats 4000000 in
theorem okk_fcJ_seekReason {g : Nat → Int32} {u : g_S} (I : IC g u) {p1 : Int32} (h0 : 0 ≤ p1.toInt) (h1 : p1.toInt ≤ 120) : okk (fcJ_seekReason u p1) (fun r => IC g r ∧ ((r.1 0).toInt = (u.1 0).toInt) ∧ ((r.1 1).toInt = (u.1 1).toInt)) := by
  unfold fcJ_seekReason
  have z1_ := IC_s I
  refine okk_bi (okk_fcJ_latestOfLine I (by omega) (by omega)) (fun v2_ hv2_ => ?_)
  have p3_ := hv2_
  refine okk_bi (okk_fcJ_takeReason I (by omega) (by omega) (by omega) (by omega)) (fun v4_ hv4_ => ?_)
  obtain ⟨p5_, p6_, p7_⟩ := hv4_
  try have t9_ : (0 : Int32).toInt = (0 : Int) := (by decide : (0 : Int32).toInt = 0)
  refine okk_eq (fun c8_ c8_I => ?_) (fun c8_ c8_I => ?_)
  · have z10_ := IC_s p5_
    refine okk_bi (okk_fcJ_firstOnStretch p5_ (by omega) (by omega)) (fun v11_ hv11_ => ?_)
    have p12_ := hv11_
    refine okk_bi (okk_fcJ_takeReason p5_ (by omega) (by omega) (by omega) (by omega)) (fun v13_ hv13_ => ?_)
    obtain ⟨p14_, p15_, p16_⟩ := hv13_
    refine okk_eq (fun c17_ c17_I => ?_) (fun c17_ c17_I => ?_)
    · have z18_ := IC_s p14_
      refine okk_bi (okk_fcJ_nearestByPlace p14_ (by omega) (by omega)) (fun v19_ hv19_ => ?_)
      have p20_ := hv19_
      refine okk_bi (okk_fcJ_takeReason p14_ (by omega) (by omega) (by omega) (by omega)) (fun v21_ hv21_ => ?_)
      obtain ⟨p22_, p23_, p24_⟩ := hv21_
      refine okk_eq (fun c25_ c25_I => ?_) (fun c25_ c25_I => ?_)
      · have z26_ := IC_s p22_
        refine okk_bi (okk_fcJ_greatestShare p22_ (by omega) (by omega)) (fun v27_ hv27_ => ?_)
        have p28_ := hv27_
        refine okk_bi (okk_fcJ_takeReason p22_ (by omega) (by omega) (by omega) (by omega)) (fun v29_ hv29_ => ?_)
        obtain ⟨p30_, p31_, p32_⟩ := hv29_
        exact okk_some (⟨p30_, (by show (v29_.2.1 0).toInt = (u.1 0).toInt; omega), (by show (v29_.2.1 1).toInt = (u.1 1).toInt; omega)⟩)
      · exact okk_some (⟨p22_, (by show (v21_.2.1 0).toInt = (u.1 0).toInt; omega), (by show (v21_.2.1 1).toInt = (u.1 1).toInt; omega)⟩)
    · exact okk_some (⟨p14_, (by show (v13_.2.1 0).toInt = (u.1 0).toInt; omega), (by show (v13_.2.1 1).toInt = (u.1 1).toInt; omega)⟩)
  · exact okk_some (⟨p5_, (by show (v4_.2.1 0).toInt = (u.1 0).toInt; omega), (by show (v4_.2.1 1).toInt = (u.1 1).toInt; omega)⟩)
set_option maxHeartbeats 4000000 in
theorem okk_fcJ_needCallData {g : Nat → Int32} {u : g_S} (I : IC g u) {p1 : Int32} {p2 : Int32} {p3 : Int32} {p4 : Int32} {p5 : Int32} : okk (fcJ_needCallData u p1 p2 p3 p4 p5) (fun r => (r = 1 ∨ r = 2 ∨ (r = 0 ∧ 0 ≤ p2.toInt ∧ p2.toInt ≤ 7))) := by
  unfold fcJ_needCallData
  have z1_ := IC_s I
  try have t2_ : (8 : Int32).toInt = (8 : Int) := (by decide : (8 : Int32).toInt = 8)
  refine okk_isBelow (fun b3_ => ?_) (fun b3_ => ?_)
  · refine okk_bs (v := (0 : Nat)) (by decide) ?_
    refine okk_t (by decide) ?_
    try have t5_ : (-1 : Int32).toInt = (-1 : Int) := (by decide : (-1 : Int32).toInt = -1)
    refine okk_eq (fun c4_ c4_I => ?_) (fun c4_ c4_I => ?_)
    · unfold fcJ_needCallData_30
      refine okk_bs (v := (0 : Nat)) (by decide) ?_
      refine okk_t (by decide) ?_
      try have t6_ : (1000 : Int32).toInt = (1000 : Int) := (by decide : (1000 : Int32).toInt = 1000)
      refine okk_isBelow (fun b7_ => ?_) (fun b7_ => ?_)
      · refine okk_bs (v := (0 : Nat)) (by decide) ?_
        refine okk_t (by decide) ?_
        refine okk_eq (fun c8_ c8_I => ?_) (fun c8_ c8_I => ?_)
        · unfold fcJ_needCallData_62
          refine okk_bs (v := (0 : Nat)) (by decide) ?_
          refine okk_t (by decide) ?_
          refine okk_bi (okk_fcA_latestTime I) (fun v9_ hv9_ => ?_)
          have p10_ := hv9_
          refine okk_lt (fun c11_ c11_I => ?_) (fun c11_ c11_I => ?_)
          · refine okk_bs (v := (2 : Nat)) (by decide) ?_
            refine okk_f (by decide) ?_
            exact okk_some ((by show 2 = 1 ∨ 2 = 2 ∨ (2 = 0 ∧ 0 ≤ p2.toInt ∧ p2.toInt ≤ 7); omega))
          · refine okk_bs (v := (0 : Nat)) (by decide) ?_
            refine okk_t (by decide) ?_
            exact okk_some ((by show 0 = 1 ∨ 0 = 2 ∨ (0 = 0 ∧ 0 ≤ p2.toInt ∧ p2.toInt ≤ 7); omega))
        · try have t12_ : (100000000 : Int32).toInt = (100000000 : Int) := (by decide : (100000000 : Int32).toInt = 100000000)
          refine okk_isBelow (fun b13_ => ?_) (fun b13_ => ?_)
          · refine okk_f (by decide) ?_
            unfold fcJ_needCallData_62
            refine okk_bs (v := (0 : Nat)) (by decide) ?_
            refine okk_t (by decide) ?_
            refine okk_bi (okk_fcA_latestTime I) (fun v14_ hv14_ => ?_)
            have p15_ := hv14_
            refine okk_lt (fun c16_ c16_I => ?_) (fun c16_ c16_I => ?_)
            · refine okk_bs (v := (2 : Nat)) (by decide) ?_
              refine okk_f (by decide) ?_
              exact okk_some ((by show 2 = 1 ∨ 2 = 2 ∨ (2 = 0 ∧ 0 ≤ p2.toInt ∧ p2.toInt ≤ 7); omega))
            · refine okk_bs (v := (0 : Nat)) (by decide) ?_
              refine okk_t (by decide) ?_
              exact okk_some ((by show 0 = 1 ∨ 0 = 2 ∨ (0 = 0 ∧ 0 ≤ p2.toInt ∧ p2.toInt ≤ 7); omega))
          · refine okk_t (by decide) ?_
            unfold fcJ_needCallData_62
            refine okk_bs (v := (2 : Nat)) (by decide) ?_
            refine okk_f (by decide) ?_
            exact okk_some ((by show 2 = 1 ∨ 2 = 2 ∨ (2 = 0 ∧ 0 ≤ p2.toInt ∧ p2.toInt ≤ 7); omega))
      · refine okk_bs (v := (2 : Nat)) (by decide) ?_
        refine okk_f (by decide) ?_
        exact okk_some ((by show 2 = 1 ∨ 2 = 2 ∨ (2 = 0 ∧ 0 ≤ p2.toInt ∧ p2.toInt ≤ 7); omega))
    · refine okk_isBelow (fun b17_ => ?_) (fun b17_ => ?_)
      · refine okk_f (by decide) ?_
        unfold fcJ_needCallData_30
        refine okk_bs (v := (0 : Nat)) (by decide) ?_
        refine okk_t (by decide) ?_
        try have t18_ : (1000 : Int32).toInt = (1000 : Int) := (by decide : (1000 : Int32).toInt = 1000)
        refine okk_isBelow (fun b19_ => ?_) (fun b19_ => ?_)
        · refine okk_bs (v := (0 : Nat)) (by decide) ?_
          refine okk_t (by decide) ?_
          refine okk_eq (fun c20_ c20_I => ?_) (fun c20_ c20_I => ?_)
          · unfold fcJ_needCallData_62
            refine okk_bs (v := (0 : Nat)) (by decide) ?_
            refine okk_t (by decide) ?_
            refine okk_bi (okk_fcA_latestTime I) (fun v21_ hv21_ => ?_)
            have p22_ := hv21_
            refine okk_lt (fun c23_ c23_I => ?_) (fun c23_ c23_I => ?_)
            · refine okk_bs (v := (2 : Nat)) (by decide) ?_
              refine okk_f (by decide) ?_
              exact okk_some ((by show 2 = 1 ∨ 2 = 2 ∨ (2 = 0 ∧ 0 ≤ p2.toInt ∧ p2.toInt ≤ 7); omega))
            · refine okk_bs (v := (0 : Nat)) (by decide) ?_
              refine okk_t (by decide) ?_
              exact okk_some ((by show 0 = 1 ∨ 0 = 2 ∨ (0 = 0 ∧ 0 ≤ p2.toInt ∧ p2.toInt ≤ 7); omega))
          · try have t24_ : (100000000 : Int32).toInt = (100000000 : Int) := (by decide : (100000000 : Int32).toInt = 100000000)
            refine okk_isBelow (fun b25_ => ?_) (fun b25_ => ?_)
            · refine okk_f (by decide) ?_
              unfold fcJ_needCallData_62
              refine okk_bs (v := (0 : Nat)) (by decide) ?_
              refine okk_t (by decide) ?_
              refine okk_bi (okk_fcA_latestTime I) (fun v26_ hv26_ => ?_)
              have p27_ := hv26_
              refine okk_lt (fun c28_ c28_I => ?_) (fun c28_ c28_I => ?_)
              · refine okk_bs (v := (2 : Nat)) (by decide) ?_
                refine okk_f (by decide) ?_
                exact okk_some ((by show 2 = 1 ∨ 2 = 2 ∨ (2 = 0 ∧ 0 ≤ p2.toInt ∧ p2.toInt ≤ 7); omega))
              · refine okk_bs (v := (0 : Nat)) (by decide) ?_
                refine okk_t (by decide) ?_
                exact okk_some ((by show 0 = 1 ∨ 0 = 2 ∨ (0 = 0 ∧ 0 ≤ p2.toInt ∧ p2.toInt ≤ 7); omega))
            · refine okk_t (by decide) ?_
              unfold fcJ_needCallData_62
              refine okk_bs (v := (2 : Nat)) (by decide) ?_
              refine okk_f (by decide) ?_
              exact okk_some ((by show 2 = 1 ∨ 2 = 2 ∨ (2 = 0 ∧ 0 ≤ p2.toInt ∧ p2.toInt ≤ 7); omega))
        · refine okk_bs (v := (2 : Nat)) (by decide) ?_
          refine okk_f (by decide) ?_
          exact okk_some ((by show 2 = 1 ∨ 2 = 2 ∨ (2 = 0 ∧ 0 ≤ p2.toInt ∧ p2.toInt ≤ 7); omega))
      · refine okk_t (by decide) ?_
        unfold fcJ_needCallData_30
        refine okk_bs (v := (1 : Nat)) (by decide) ?_
        refine okk_f (by decide) ?_
        exact okk_some ((by show 1 = 1 ∨ 1 = 2 ∨ (1 = 0 ∧ 0 ≤ p2.toInt ∧ p2.toInt ≤ 7); omega))
  · refine okk_bs (v := (1 : Nat)) (by decide) ?_
    refine okk_f (by decide) ?_
    exact okk_some ((by show 1 = 1 ∨ 1 = 2 ∨ (1 = 0 ∧ 0 ≤ p2.toInt ∧ p2.toInt ≤ 7); omega))
end
section
set_option maxHeartbeats 4000000 in
theorem okk_fcJ_needTwoCalls {g : Nat → Int32} {u : g_S} (I : IC g u) {p1 : Int32} {p2 : Int32} : okk (fcJ_needTwoCalls u p1 p2) (fun r => (r = 1 ∨ (r = 0 ∧ 0 ≤ p1.toInt ∧ p1.toInt < (u.1 0).toInt ∧ 0 ≤ p2.toInt ∧ p2.toInt < (u.1 0).toInt))) := by
  unfold fcJ_needTwoCalls
  have z1_ := IC_s I
  refine okk_isBelow (fun b2_ => ?_) (fun b2_ => ?_)
  · refine okk_f (by decide) ?_
    refine okk_isBelow (fun b3_ => ?_) (fun b3_ => ?_)
    · refine okk_f (by decide) ?_
      refine okk_eq (fun c4_ c4_I => ?_) (fun c4_ c4_I => ?_)
      · refine okk_bs (v := (1 : Nat)) (by decide) ?_
        refine okk_f (by decide) ?_
        exact okk_some ((by show 1 = 1 ∨ (1 = 0 ∧ 0 ≤ p1.toInt ∧ p1.toInt < (u.1 0).toInt ∧ 0 ≤ p2.toInt ∧ p2.toInt < (u.1 0).toInt); omega))
      · refine okk_bs (v := (0 : Nat)) (by decide) ?_
        refine okk_t (by decide) ?_
        exact okk_some ((by show 0 = 1 ∨ (0 = 0 ∧ 0 ≤ p1.toInt ∧ p1.toInt < (u.1 0).toInt ∧ 0 ≤ p2.toInt ∧ p2.toInt < (u.1 0).toInt); omega))
    · refine okk_t (by decide) ?_
      refine okk_bs (v := (1 : Nat)) (by decide) ?_
      refine okk_f (by decide) ?_
      exact okk_some ((by show 1 = 1 ∨ (1 = 0 ∧ 0 ≤ p1.toInt ∧ p1.toInt < (u.1 0).toInt ∧ 0 ≤ p2.toInt ∧ p2.toInt < (u.1 0).toInt); omega))
  · refine okk_t (by decide) ?_
    refine okk_bs (v := (1 : Nat)) (by decide) ?_
    refine okk_f (by decide) ?_
    exact okk_some ((by show 1 = 1 ∨ (1 = 0 ∧ 0 ≤ p1.toInt ∧ p1.toInt < (u.1 0).toInt ∧ 0 ≤ p2.toInt ∧ p2.toInt < (u.1 0).toInt); omega))
set_option maxHeartbeats 4000000 in
theorem okk_fcJ_rule {g : Nat → Int32} {u : g_S} (I : IC g u) {p1 : Int32} {p2 : Int32} {p3 : Int32} {p4 : Int32} {p5 : Int32} : okk (fcJ_rule u p1 p2 p3 p4 p5) (fun r => IC g r.2 ∧ ((r.1 = 1 ∧ ¬ (0 ≤ p1.toInt ∧ p1.toInt ≤ 7)) ∨ (r.1 = 2 ∧ (0 ≤ p1.toInt ∧ p1.toInt ≤ 7) ∧ ¬ (0 ≤ p2.toInt ∧ p2.toInt ≤ 20000 ∧ 0 ≤ p3.toInt ∧ p3.toInt ≤ 100000 ∧ 0 ≤ p4.toInt ∧ p4.toInt ≤ 100 ∧ 1 ≤ p5.toInt ∧ p5.toInt ≤ 100)) ∨ (r.1 = 0 ∧ (0 ≤ p1.toInt ∧ p1.toInt ≤ 7) ∧ (0 ≤ p2.toInt ∧ p2.toInt ≤ 20000 ∧ 0 ≤ p3.toInt ∧ p3.toInt ≤ 100000 ∧ 0 ≤ p4.toInt ∧ p4.toInt ≤ 100 ∧ 1 ≤ p5.toInt ∧ p5.toInt ≤ 100)))) := by
  unfold fcJ_rule
  have z1_ := IC_s I
  try have t2_ : (8 : Int32).toInt = (8 : Int) := (by decide : (8 : Int32).toInt = 8)
  refine okk_isBelow (fun b3_ => ?_) (fun b3_ => ?_)
  · refine okk_bs (v := (0 : Nat)) (by decide) ?_
    refine okk_t (by decide) ?_
    try have t4_ : (20001 : Int32).toInt = (20001 : Int) := (by decide : (20001 : Int32).toInt = 20001)
    refine okk_isBelow (fun b5_ => ?_) (fun b5_ => ?_)
    · refine okk_bs (v := (0 : Nat)) (by decide) ?_
      refine okk_t (by decide) ?_
      try have t6_ : (100001 : Int32).toInt = (100001 : Int) := (by decide : (100001 : Int32).toInt = 100001)
      refine okk_isBelow (fun b7_ => ?_) (fun b7_ => ?_)
      · refine okk_bs (v := (0 : Nat)) (by decide) ?_
        refine okk_t (by decide) ?_
        try have t8_ : (101 : Int32).toInt = (101 : Int) := (by decide : (101 : Int32).toInt = 101)
        refine okk_isBelow (fun b9_ => ?_) (fun b9_ => ?_)
        · refine okk_bs (v := (0 : Nat)) (by decide) ?_
          refine okk_t (by decide) ?_
          try have t11_ : (1 : Int32).toInt = (1 : Int) := (by decide : (1 : Int32).toInt = 1)
          refine okk_lt (fun c10_ c10_I => ?_) (fun c10_ c10_I => ?_)
          · unfold fcJ_rule_56
            refine okk_bs (v := (2 : Nat)) (by decide) ?_
            refine okk_f (by decide) ?_
            exact okk_some (⟨I, (by show (2 = 1 ∧ ¬ (0 ≤ p1.toInt ∧ p1.toInt ≤ 7)) ∨ (2 = 2 ∧ (0 ≤ p1.toInt ∧ p1.toInt ≤ 7) ∧ ¬ (0 ≤ p2.toInt ∧ p2.toInt ≤ 20000 ∧ 0 ≤ p3.toInt ∧ p3.toInt ≤ 100000 ∧ 0 ≤ p4.toInt ∧ p4.toInt ≤ 100 ∧ 1 ≤ p5.toInt ∧ p5.toInt ≤ 100)) ∨ (2 = 0 ∧ (0 ≤ p1.toInt ∧ p1.toInt ≤ 7) ∧ (0 ≤ p2.toInt ∧ p2.toInt ≤ 20000 ∧ 0 ≤ p3.toInt ∧ p3.toInt ≤ 100000 ∧ 0 ≤ p4.toInt ∧ p4.toInt ≤ 100 ∧ 1 ≤ p5.toInt ∧ p5.toInt ≤ 100)); omega)⟩)
          · try have t13_ : (100 : Int32).toInt = (100 : Int) := (by decide : (100 : Int32).toInt = 100)
            refine okk_lt (fun c12_ c12_I => ?_) (fun c12_ c12_I => ?_)
            · unfold fcJ_rule_56
              refine okk_bs (v := (2 : Nat)) (by decide) ?_
              refine okk_f (by decide) ?_
              exact okk_some (⟨I, (by show (2 = 1 ∧ ¬ (0 ≤ p1.toInt ∧ p1.toInt ≤ 7)) ∨ (2 = 2 ∧ (0 ≤ p1.toInt ∧ p1.toInt ≤ 7) ∧ ¬ (0 ≤ p2.toInt ∧ p2.toInt ≤ 20000 ∧ 0 ≤ p3.toInt ∧ p3.toInt ≤ 100000 ∧ 0 ≤ p4.toInt ∧ p4.toInt ≤ 100 ∧ 1 ≤ p5.toInt ∧ p5.toInt ≤ 100)) ∨ (2 = 0 ∧ (0 ≤ p1.toInt ∧ p1.toInt ≤ 7) ∧ (0 ≤ p2.toInt ∧ p2.toInt ≤ 20000 ∧ 0 ≤ p3.toInt ∧ p3.toInt ≤ 100000 ∧ 0 ≤ p4.toInt ∧ p4.toInt ≤ 100 ∧ 1 ≤ p5.toInt ∧ p5.toInt ≤ 100)); omega)⟩)
            · unfold fcJ_rule_56
              refine okk_bs (v := (0 : Nat)) (by decide) ?_
              refine okk_t (by decide) ?_
              refine okk_ck (vp_I (by omega) (by omega)) ?_
              refine okk_gl (fun u1014_ eu1014_ => ?_)
              have Iu1014_ : IC g u1014_ := by rw [eu1014_]; exact IC_wx I 0 _ _ rfl rfl (by decide)
              have z15_ : (u1014_.1 0).toInt = (u.1 0).toInt := by rw [eu1014_]; rfl
              have z16_ : (u1014_.1 1).toInt = (u.1 1).toInt := by rw [eu1014_]; rfl
              refine okk_ck (vp_I (by omega) (by omega)) ?_
              refine okk_gl (fun u1117_ eu1117_ => ?_)
              have Iu1117_ : IC g u1117_ := by rw [eu1117_]; exact IC_wx Iu1014_ 1 _ _ rfl rfl (by decide)
              have z18_ : (u1117_.1 0).toInt = (u1014_.1 0).toInt := by rw [eu1117_]; rfl
              have z19_ : (u1117_.1 1).toInt = (u1014_.1 1).toInt := by rw [eu1117_]; rfl
              refine okk_ck (vp_I (by omega) (by omega)) ?_
              refine okk_gl (fun u1220_ eu1220_ => ?_)
              have Iu1220_ : IC g u1220_ := by rw [eu1220_]; exact IC_wx Iu1117_ 2 _ _ rfl rfl (by decide)
              have z21_ : (u1220_.1 0).toInt = (u1117_.1 0).toInt := by rw [eu1220_]; rfl
              have z22_ : (u1220_.1 1).toInt = (u1117_.1 1).toInt := by rw [eu1220_]; rfl
              refine okk_ck (vp_I (by omega) (by omega)) ?_
              refine okk_gl (fun u1323_ eu1323_ => ?_)
              have Iu1323_ : IC g u1323_ := by rw [eu1323_]; exact IC_wx Iu1220_ 3 _ _ rfl rfl (by decide)
              have z24_ : (u1323_.1 0).toInt = (u1220_.1 0).toInt := by rw [eu1323_]; rfl
              have z25_ : (u1323_.1 1).toInt = (u1220_.1 1).toInt := by rw [eu1323_]; rfl
              exact okk_some (⟨Iu1323_, (by show (0 = 1 ∧ ¬ (0 ≤ p1.toInt ∧ p1.toInt ≤ 7)) ∨ (0 = 2 ∧ (0 ≤ p1.toInt ∧ p1.toInt ≤ 7) ∧ ¬ (0 ≤ p2.toInt ∧ p2.toInt ≤ 20000 ∧ 0 ≤ p3.toInt ∧ p3.toInt ≤ 100000 ∧ 0 ≤ p4.toInt ∧ p4.toInt ≤ 100 ∧ 1 ≤ p5.toInt ∧ p5.toInt ≤ 100)) ∨ (0 = 0 ∧ (0 ≤ p1.toInt ∧ p1.toInt ≤ 7) ∧ (0 ≤ p2.toInt ∧ p2.toInt ≤ 20000 ∧ 0 ≤ p3.toInt ∧ p3.toInt ≤ 100000 ∧ 0 ≤ p4.toInt ∧ p4.toInt ≤ 100 ∧ 1 ≤ p5.toInt ∧ p5.toInt ≤ 100)); omega)⟩)
        · refine okk_bs (v := (2 : Nat)) (by decide) ?_
          refine okk_f (by decide) ?_
          exact okk_some (⟨I, (by show (2 = 1 ∧ ¬ (0 ≤ p1.toInt ∧ p1.toInt ≤ 7)) ∨ (2 = 2 ∧ (0 ≤ p1.toInt ∧ p1.toInt ≤ 7) ∧ ¬ (0 ≤ p2.toInt ∧ p2.toInt ≤ 20000 ∧ 0 ≤ p3.toInt ∧ p3.toInt ≤ 100000 ∧ 0 ≤ p4.toInt ∧ p4.toInt ≤ 100 ∧ 1 ≤ p5.toInt ∧ p5.toInt ≤ 100)) ∨ (2 = 0 ∧ (0 ≤ p1.toInt ∧ p1.toInt ≤ 7) ∧ (0 ≤ p2.toInt ∧ p2.toInt ≤ 20000 ∧ 0 ≤ p3.toInt ∧ p3.toInt ≤ 100000 ∧ 0 ≤ p4.toInt ∧ p4.toInt ≤ 100 ∧ 1 ≤ p5.toInt ∧ p5.toInt ≤ 100)); omega)⟩)
      · refine okk_bs (v := (2 : Nat)) (by decide) ?_
        refine okk_f (by decide) ?_
        exact okk_some (⟨I, (by show (2 = 1 ∧ ¬ (0 ≤ p1.toInt ∧ p1.toInt ≤ 7)) ∨ (2 = 2 ∧ (0 ≤ p1.toInt ∧ p1.toInt ≤ 7) ∧ ¬ (0 ≤ p2.toInt ∧ p2.toInt ≤ 20000 ∧ 0 ≤ p3.toInt ∧ p3.toInt ≤ 100000 ∧ 0 ≤ p4.toInt ∧ p4.toInt ≤ 100 ∧ 1 ≤ p5.toInt ∧ p5.toInt ≤ 100)) ∨ (2 = 0 ∧ (0 ≤ p1.toInt ∧ p1.toInt ≤ 7) ∧ (0 ≤ p2.toInt ∧ p2.toInt ≤ 20000 ∧ 0 ≤ p3.toInt ∧ p3.toInt ≤ 100000 ∧ 0 ≤ p4.toInt ∧ p4.toInt ≤ 100 ∧ 1 ≤ p5.toInt ∧ p5.toInt ≤ 100)); omega)⟩)
    · refine okk_bs (v := (2 : Nat)) (by decide) ?_
      refine okk_f (by decide) ?_
      exact okk_some (⟨I, (by show (2 = 1 ∧ ¬ (0 ≤ p1.toInt ∧ p1.toInt ≤ 7)) ∨ (2 = 2 ∧ (0 ≤ p1.toInt ∧ p1.toInt ≤ 7) ∧ ¬ (0 ≤ p2.toInt ∧ p2.toInt ≤ 20000 ∧ 0 ≤ p3.toInt ∧ p3.toInt ≤ 100000 ∧ 0 ≤ p4.toInt ∧ p4.toInt ≤ 100 ∧ 1 ≤ p5.toInt ∧ p5.toInt ≤ 100)) ∨ (2 = 0 ∧ (0 ≤ p1.toInt ∧ p1.toInt ≤ 7) ∧ (0 ≤ p2.toInt ∧ p2.toInt ≤ 20000 ∧ 0 ≤ p3.toInt ∧ p3.toInt ≤ 100000 ∧ 0 ≤ p4.toInt ∧ p4.toInt ≤ 100 ∧ 1 ≤ p5.toInt ∧ p5.toInt ≤ 100)); omega)⟩)
  · refine okk_bs (v := (1 : Nat)) (by decide) ?_
    refine okk_f (by decide) ?_
    exact okk_some (⟨I, (by show (1 = 1 ∧ ¬ (0 ≤ p1.toInt ∧ p1.toInt ≤ 7)) ∨ (1 = 2 ∧ (0 ≤ p1.toInt ∧ p1.toInt ≤ 7) ∧ ¬ (0 ≤ p2.toInt ∧ p2.toInt ≤ 20000 ∧ 0 ≤ p3.toInt ∧ p3.toInt ≤ 100000 ∧ 0 ≤ p4.toInt ∧ p4.toInt ≤ 100 ∧ 1 ≤ p5.toInt ∧ p5.toInt ≤ 100)) ∨ (1 = 0 ∧ (0 ≤ p1.toInt ∧ p1.toInt ≤ 7) ∧ (0 ≤ p2.toInt ∧ p2.toInt ≤ 20000 ∧ 0 ≤ p3.toInt ∧ p3.toInt ≤ 100000 ∧ 0 ≤ p4.toInt ∧ p4.toInt ≤ 100 ∧ 1 ≤ p5.toInt ∧ p5.toInt ≤ 100)); omega)⟩)
set_option maxHeartbeats 4000000 in
theorem okk_fcJ_weight {g : Nat → Int32} {u : g_S} (I : IC g u) {p1 : Int32} {p2 : Int32} {p3 : Int32} : okk (fcJ_weight u p1 p2 p3) (fun r => IC g r.2 ∧ ((r.1 = 1 ∧ ¬ (0 ≤ p1.toInt ∧ p1.toInt ≤ 7 ∧ 0 ≤ p2.toInt ∧ p2.toInt ≤ 31)) ∨ (r.1 = 2 ∧ (0 ≤ p1.toInt ∧ p1.toInt ≤ 7 ∧ 0 ≤ p2.toInt ∧ p2.toInt ≤ 31) ∧ ¬ (0 ≤ p3.toInt ∧ p3.toInt ≤ 100)) ∨ (r.1 = 0 ∧ (0 ≤ p1.toInt ∧ p1.toInt ≤ 7 ∧ 0 ≤ p2.toInt ∧ p2.toInt ≤ 31) ∧ (0 ≤ p3.toInt ∧ p3.toInt ≤ 100)))) := by
  unfold fcJ_weight
  have z1_ := IC_s I
  try have t2_ : (8 : Int32).toInt = (8 : Int) := (by decide : (8 : Int32).toInt = 8)
  refine okk_isBelow (fun b3_ => ?_) (fun b3_ => ?_)
  · refine okk_f (by decide) ?_
    try have t4_ : (32 : Int32).toInt = (32 : Int) := (by decide : (32 : Int32).toInt = 32)
    refine okk_isBelow (fun b5_ => ?_) (fun b5_ => ?_)
    · refine okk_f (by decide) ?_
      unfold fcJ_weight_23
      refine okk_bs (v := (0 : Nat)) (by decide) ?_
      refine okk_t (by decide) ?_
      try have t6_ : (101 : Int32).toInt = (101 : Int) := (by decide : (101 : Int32).toInt = 101)
      refine okk_isBelow (fun b7_ => ?_) (fun b7_ => ?_)
      · refine okk_bs (v := (0 : Nat)) (by decide) ?_
        refine okk_t (by decide) ?_
        have t8_ : ((p1 * (32 : Int32)) + p2).toInt = ((p1.toInt * (32 : Int)) + p2.toInt) := (oi_add (a := (p1 * (32 : Int32))) (b := p2) (oi_mul (a := p1) (b := (32 : Int32)) rfl (by decide : (32 : Int32).toInt = 32) (by omega) (by omega)) rfl (by omega) (by omega))
        refine okk_ck (vp_I (by omega) (by omega)) ?_
        refine okk_gl (fun u59_ eu59_ => ?_)
        have Iu59_ : IC g u59_ := by rw [eu59_]; exact IC_wx I 4 _ _ rfl rfl (by decide)
        have z10_ : (u59_.1 0).toInt = (u.1 0).toInt := by rw [eu59_]; rfl
        have z11_ : (u59_.1 1).toInt = (u.1 1).toInt := by rw [eu59_]; rfl
        exact okk_some (⟨Iu59_, (by show (0 = 1 ∧ ¬ (0 ≤ p1.toInt ∧ p1.toInt ≤ 7 ∧ 0 ≤ p2.toInt ∧ p2.toInt ≤ 31)) ∨ (0 = 2 ∧ (0 ≤ p1.toInt ∧ p1.toInt ≤ 7 ∧ 0 ≤ p2.toInt ∧ p2.toInt ≤ 31) ∧ ¬ (0 ≤ p3.toInt ∧ p3.toInt ≤ 100)) ∨ (0 = 0 ∧ (0 ≤ p1.toInt ∧ p1.toInt ≤ 7 ∧ 0 ≤ p2.toInt ∧ p2.toInt ≤ 31) ∧ (0 ≤ p3.toInt ∧ p3.toInt ≤ 100)); omega)⟩)
      · refine okk_bs (v := (2 : Nat)) (by decide) ?_
        refine okk_f (by decide) ?_
        exact okk_some (⟨I, (by show (2 = 1 ∧ ¬ (0 ≤ p1.toInt ∧ p1.toInt ≤ 7 ∧ 0 ≤ p2.toInt ∧ p2.toInt ≤ 31)) ∨ (2 = 2 ∧ (0 ≤ p1.toInt ∧ p1.toInt ≤ 7 ∧ 0 ≤ p2.toInt ∧ p2.toInt ≤ 31) ∧ ¬ (0 ≤ p3.toInt ∧ p3.toInt ≤ 100)) ∨ (2 = 0 ∧ (0 ≤ p1.toInt ∧ p1.toInt ≤ 7 ∧ 0 ≤ p2.toInt ∧ p2.toInt ≤ 31) ∧ (0 ≤ p3.toInt ∧ p3.toInt ≤ 100)); omega)⟩)
    · refine okk_t (by decide) ?_
      unfold fcJ_weight_23
      refine okk_bs (v := (1 : Nat)) (by decide) ?_
      refine okk_f (by decide) ?_
      exact okk_some (⟨I, (by show (1 = 1 ∧ ¬ (0 ≤ p1.toInt ∧ p1.toInt ≤ 7 ∧ 0 ≤ p2.toInt ∧ p2.toInt ≤ 31)) ∨ (1 = 2 ∧ (0 ≤ p1.toInt ∧ p1.toInt ≤ 7 ∧ 0 ≤ p2.toInt ∧ p2.toInt ≤ 31) ∧ ¬ (0 ≤ p3.toInt ∧ p3.toInt ≤ 100)) ∨ (1 = 0 ∧ (0 ≤ p1.toInt ∧ p1.toInt ≤ 7 ∧ 0 ≤ p2.toInt ∧ p2.toInt ≤ 31) ∧ (0 ≤ p3.toInt ∧ p3.toInt ≤ 100)); omega)⟩)
  · refine okk_t (by decide) ?_
    unfold fcJ_weight_23
    refine okk_bs (v := (1 : Nat)) (by decide) ?_
    refine okk_f (by decide) ?_
    exact okk_some (⟨I, (by show (1 = 1 ∧ ¬ (0 ≤ p1.toInt ∧ p1.toInt ≤ 7 ∧ 0 ≤ p2.toInt ∧ p2.toInt ≤ 31)) ∨ (1 = 2 ∧ (0 ≤ p1.toInt ∧ p1.toInt ≤ 7 ∧ 0 ≤ p2.toInt ∧ p2.toInt ≤ 31) ∧ ¬ (0 ≤ p3.toInt ∧ p3.toInt ≤ 100)) ∨ (1 = 0 ∧ (0 ≤ p1.toInt ∧ p1.toInt ≤ 7 ∧ 0 ≤ p2.toInt ∧ p2.toInt ≤ 31) ∧ (0 ≤ p3.toInt ∧ p3.toInt ≤ 100)); omega)⟩)
set_option maxHeartbeats 4000000 in
theorem okk_fcJ_call {g : Nat → Int32} {u : g_S} (I : IC g u) {p1 : Int32} {p2 : Int32} {p3 : Int32} {p4 : Int32} {p5 : Int32} {p6 : Int32} : okk (fcJ_call u p1 p2 p3 p4 p5 p6) (fun r => IC g r.2.2 ∧ (r.1 = 0 ∨ r.1 = 1 ∨ r.1 = 2 ∨ r.1 = 4)) := by
  unfold fcJ_call
  have z1_ := IC_s I
  refine okk_bi (okk_fcJ_needCallData I) (fun v2_ hv2_ => ?_)
  have p3_ := hv2_
  refine okk_if (fun c4_ => ?_) (fun c4_ => ?_)
  · try have t6_ : (120 : Int32).toInt = (120 : Int) := (by decide : (120 : Int32).toInt = 120)
    refine okk_le (fun c5_ c5_I => ?_) (fun c5_ c5_I => ?_)
    · unfold fcJ_call_28
      refine okk_bs (v := (4 : Nat)) (by decide) ?_
      refine okk_f (by decide) ?_
      try have t7_ : (0 : Int32).toInt = (0 : Int) := (by decide : (0 : Int32).toInt = 0)
      exact okk_some (⟨I, (by show 4 = 0 ∨ 4 = 1 ∨ 4 = 2 ∨ 4 = 4; omega)⟩)
    · unfold fcJ_call_28
      refine okk_bs (v := (0 : Nat)) (by decide) ?_
      refine okk_t (by decide) ?_
      refine okk_bi (okk_fcA_draft I (by omega) (by omega)) (fun v8_ hv8_ => ?_)
      obtain ⟨p9_, p10_, p11_, p12_⟩ := hv8_
      have z13_ := IC_s p9_
      refine okk_bi (okk_fcJ_seekReason p9_ (by omega) (by omega)) (fun v14_ hv14_ => ?_)
      obtain ⟨p15_, p16_, p17_⟩ := hv14_
      refine okk_ck (vp_I (by omega) (by omega)) ?_
      have r19_ := IC_r14 p15_ v8_.1.toNatClampNeg
      refine okk_gl (fun w518_ ew518_ => ?_)
      have t20_ : w518_.toInt = (v14_.2 14 v8_.1.toNatClampNeg).toInt := by rw [ew518_]
      try have t22_ : (-1 : Int32).toInt = (-1 : Int) := (by decide : (-1 : Int32).toInt = -1)
      refine okk_ne (fun c21_ c21_I => ?_) (fun c21_ c21_I => ?_)
      · refine okk_ck (vp_I (by omega) (by omega)) ?_
        refine okk_ck (vp_I (by omega) (by omega)) ?_
        have r24_ := IC_r13 p15_ w518_.toNatClampNeg
        refine okk_gl (fun u623_ eu623_ => ?_)
        have Iu623_ : IC g u623_ := by rw [eu623_]; exact IC_v13 p15_ _ _ (by omega) (by omega)
        have z25_ : (u623_.1 0).toInt = (v14_.1 0).toInt := by rw [eu623_]; rfl
        have z26_ : (u623_.1 1).toInt = (v14_.1 1).toInt := by rw [eu623_]; rfl
        unfold fcJ_call_136
        have t28_ : ((u623_.1 0) + (1 : Int32)).toInt = ((u623_.1 0).toInt + (1 : Int)) := (oi_add (a := (u623_.1 0)) (b := (1 : Int32)) rfl (by decide : (1 : Int32).toInt = 1) (by omega) (by omega))
        refine okk_gl (fun u727_ eu727_ => ?_)
        have Iu727_ : IC g u727_ := by rw [eu727_]; exact IC_i0 Iu623_ _ (by omega) (by omega)
        have z29_ : (u727_.1 0).toInt = ((u623_.1 0) + (1 : Int32)).toInt := by rw [eu727_]; rfl
        have z30_ : (u727_.1 1).toInt = (u623_.1 1).toInt := by rw [eu727_]; rfl
        exact okk_some (⟨Iu727_, (by show 0 = 0 ∨ 0 = 1 ∨ 0 = 2 ∨ 0 = 4; omega)⟩)
      · try have t32_ : (60 : Int32).toInt = (60 : Int) := (by decide : (60 : Int32).toInt = 60)
        refine okk_le (fun c31_ c31_I => ?_) (fun c31_ c31_I => ?_)
        · unfold fcJ_call_90
          refine okk_bs (v := (4 : Nat)) (by decide) ?_
          refine okk_f (by decide) ?_
          try have t33_ : (0 : Int32).toInt = (0 : Int) := (by decide : (0 : Int32).toInt = 0)
          exact okk_some (⟨p15_, (by show 4 = 0 ∨ 4 = 1 ∨ 4 = 2 ∨ 4 = 4; omega)⟩)
        · unfold fcJ_call_90
          refine okk_bs (v := (0 : Nat)) (by decide) ?_
          refine okk_t (by decide) ?_
          have z34_ := IC_s p15_
          refine okk_bi (okk_fcE_begin p15_ (by omega) (by omega) (by omega) (by omega) (by omega)) (fun v35_ hv35_ => ?_)
          obtain ⟨p36_, p37_, p38_, p39_⟩ := hv35_
          refine okk_ck (vp_I (by omega) (by omega)) ?_
          refine okk_gl (fun u1040_ eu1040_ => ?_)
          have Iu1040_ : IC g u1040_ := by rw [eu1040_]; exact IC_v13 p36_ _ _ (by omega) (by omega)
          have z41_ : (u1040_.1 0).toInt = (v35_.2.1 0).toInt := by rw [eu1040_]; rfl
          have z42_ : (u1040_.1 1).toInt = (v35_.2.1 1).toInt := by rw [eu1040_]; rfl
          unfold fcJ_call_136
          have t44_ : ((u1040_.1 0) + (1 : Int32)).toInt = ((u1040_.1 0).toInt + (1 : Int)) := (oi_add (a := (u1040_.1 0)) (b := (1 : Int32)) rfl (by decide : (1 : Int32).toInt = 1) (by omega) (by omega))
          refine okk_gl (fun u743_ eu743_ => ?_)
          have Iu743_ : IC g u743_ := by rw [eu743_]; exact IC_i0 Iu1040_ _ (by omega) (by omega)
          have z45_ : (u743_.1 0).toInt = ((u1040_.1 0) + (1 : Int32)).toInt := by rw [eu743_]; rfl
          have z46_ : (u743_.1 1).toInt = (u1040_.1 1).toInt := by rw [eu743_]; rfl
          exact okk_some (⟨Iu743_, (by show 0 = 0 ∨ 0 = 1 ∨ 0 = 2 ∨ 0 = 4; omega)⟩)
  · try have t47_ : (0 : Int32).toInt = (0 : Int) := (by decide : (0 : Int32).toInt = 0)
    exact okk_some (⟨I, (by show v2_ = 0 ∨ v2_ = 1 ∨ v2_ = 2 ∨ v2_ = 4; omega)⟩)
set_option maxHeartbeats 4000000 in
theorem okk_fcJ_reasonFor {g : Nat → Int32} {u : g_S} (I : IC g u) {p1 : Int32} {p2 : Int32} {p3 : Int32} {p4 : Int32} {p5 : Int32} {p6 : Int32} : okk (fcJ_reasonFor u p1 p2 p3 p4 p5 p6) (fun r => IC g r.2.2 ∧ (r.1 = 0 ∨ r.1 = 1 ∨ r.1 = 2)) := by
  unfold fcJ_reasonFor
  have z1_ := IC_s I
  refine okk_bi (okk_fcJ_needCallData I) (fun v2_ hv2_ => ?_)
  have p3_ := hv2_
  refine okk_if (fun c4_ => ?_) (fun c4_ => ?_)
  · refine okk_bi (okk_fcA_draft I (by omega) (by omega)) (fun v5_ hv5_ => ?_)
    obtain ⟨p6_, p7_, p8_, p9_⟩ := hv5_
    have z10_ := IC_s p6_
    refine okk_bi (okk_fcJ_seekReason p6_ (by omega) (by omega)) (fun v11_ hv11_ => ?_)
    obtain ⟨p12_, p13_, p14_⟩ := hv11_
    refine okk_ck (vp_I (by omega) (by omega)) ?_
    have r15_ := IC_r14 p12_ v5_.1.toNatClampNeg
    exact okk_some (⟨p12_, (by show 0 = 0 ∨ 0 = 1 ∨ 0 = 2; omega)⟩)
  · try have t16_ : (0 : Int32).toInt = (0 : Int) := (by decide : (0 : Int32).toInt = 0)
    exact okk_some (⟨I, (by show v2_ = 0 ∨ v2_ = 1 ∨ v2_ = 2; omega)⟩)
set_option maxHeartbeats 4000000 in
theorem okk_fcJ_mark {g : Nat → Int32} {u : g_S} (I : IC g u) {p1 : Int32} {p2 : Int32} : okk (fcJ_mark u p1 p2) (fun r => IC g r.2 ∧ (r.1 = 0 ∨ r.1 = 1 ∨ r.1 = 2)) := by
  unfold fcJ_mark
  have z1_ := IC_s I
  refine okk_isBelow (fun b2_ => ?_) (fun b2_ => ?_)
  · refine okk_bs (v := (0 : Nat)) (by decide) ?_
    refine okk_t (by decide) ?_
    try have t3_ : (8 : Int32).toInt = (8 : Int) := (by decide : (8 : Int32).toInt = 8)
    refine okk_isBelow (fun b4_ => ?_) (fun b4_ => ?_)
    · refine okk_bs (v := (0 : Nat)) (by decide) ?_
      refine okk_t (by decide) ?_
      refine okk_ck (vp_I (by omega) (by omega)) ?_
      refine okk_gl (fun u55_ eu55_ => ?_)
      have Iu55_ : IC g u55_ := by rw [eu55_]; exact IC_wx I 16 _ _ rfl rfl (by decide)
      have z6_ : (u55_.1 0).toInt = (u.1 0).toInt := by rw [eu55_]; rfl
      have z7_ : (u55_.1 1).toInt = (u.1 1).toInt := by rw [eu55_]; rfl
      exact okk_some (⟨Iu55_, (by show 0 = 0 ∨ 0 = 1 ∨ 0 = 2; omega)⟩)
    · refine okk_bs (v := (2 : Nat)) (by decide) ?_
      refine okk_f (by decide) ?_
      exact okk_some (⟨I, (by show 2 = 0 ∨ 2 = 1 ∨ 2 = 2; omega)⟩)
  · refine okk_bs (v := (1 : Nat)) (by decide) ?_
    refine okk_f (by decide) ?_
    exact okk_some (⟨I, (by show 1 = 0 ∨ 1 = 1 ∨ 1 = 2; omega)⟩)
set_option maxHeartbeats 4000000 in
theorem okk_fcJ_split {g : Nat → Int32} {u : g_S} (I : IC g u) {p1 : Int32} : okk (fcJ_split u p1) (fun r => IC g r.2.2 ∧ (r.1 = 0 ∨ r.1 = 1 ∨ r.1 = 3 ∨ r.1 = 4)) := by
  unfold fcJ_split
  have z1_ := IC_s I
  refine okk_isBelow (fun b2_ => ?_) (fun b2_ => ?_)
  · refine okk_bs (v := (0 : Nat)) (by decide) ?_
    refine okk_t (by decide) ?_
    refine okk_ck (vp_I (by omega) (by omega)) ?_
    have r4_ := IC_r14 I p1.toNatClampNeg
    try have t5_ : (-1 : Int32).toInt = (-1 : Int) := (by decide : (-1 : Int32).toInt = -1)
    refine okk_eq (fun c3_ c3_I => ?_) (fun c3_ c3_I => ?_)
    · unfold fcJ_split_40
      refine okk_bs (v := (3 : Nat)) (by decide) ?_
      refine okk_f (by decide) ?_
      try have t6_ : (0 : Int32).toInt = (0 : Int) := (by decide : (0 : Int32).toInt = 0)
      exact okk_some (⟨I, (by show 3 = 0 ∨ 3 = 1 ∨ 3 = 3 ∨ 3 = 4; omega)⟩)
    · refine okk_bi (okk_fcJ_isInOpenEvent I (by omega) (by omega)) (fun v7_ hv7_ => ?_)
      have p8_ := hv7_
      try have t10_ : (0 : Int32).toInt = (0 : Int) := (by decide : (0 : Int32).toInt = 0)
      refine okk_eq (fun c9_ c9_I => ?_) (fun c9_ c9_I => ?_)
      · unfold fcJ_split_40
        refine okk_bs (v := (3 : Nat)) (by decide) ?_
        refine okk_f (by decide) ?_
        exact okk_some (⟨I, (by show 3 = 0 ∨ 3 = 1 ∨ 3 = 3 ∨ 3 = 4; omega)⟩)
      · unfold fcJ_split_40
        refine okk_bs (v := (0 : Nat)) (by decide) ?_
        refine okk_t (by decide) ?_
        try have t12_ : (60 : Int32).toInt = (60 : Int) := (by decide : (60 : Int32).toInt = 60)
        refine okk_le (fun c11_ c11_I => ?_) (fun c11_ c11_I => ?_)
        · unfold fcJ_split_60
          refine okk_bs (v := (4 : Nat)) (by decide) ?_
          refine okk_f (by decide) ?_
          exact okk_some (⟨I, (by show 4 = 0 ∨ 4 = 1 ∨ 4 = 3 ∨ 4 = 4; omega)⟩)
        · unfold fcJ_split_60
          refine okk_bs (v := (0 : Nat)) (by decide) ?_
          refine okk_t (by decide) ?_
          refine okk_ck (vp_I (by omega) (by omega)) ?_
          have r13_ := IC_r8 I p1.toNatClampNeg
          refine okk_bi (okk_fcE_begin I (by omega) (by omega) (by omega) (by omega) (by omega)) (fun v14_ hv14_ => ?_)
          obtain ⟨p15_, p16_, p17_, p18_⟩ := hv14_
          have z19_ := IC_s p15_
          refine okk_bi (okk_fcA_moveBranch p15_ (by omega) (by omega)) (fun v20_ hv20_ => ?_)
          obtain ⟨p21_, p22_, p23_⟩ := hv20_
          refine okk_ck (vp_I (by omega) (by omega)) ?_
          refine okk_gl (fun u724_ eu724_ => ?_)
          have Iu724_ : IC g u724_ := by rw [eu724_]; exact IC_v14 p21_ _ _ (by omega) (by omega)
          have z25_ : (u724_.1 0).toInt = (v20_.1 0).toInt := by rw [eu724_]; rfl
          have z26_ : (u724_.1 1).toInt = (v20_.1 1).toInt := by rw [eu724_]; rfl
          refine okk_ck (vp_I (by omega) (by omega)) ?_
          refine okk_gl (fun u827_ eu827_ => ?_)
          have Iu827_ : IC g u827_ := by rw [eu827_]; exact IC_wx Iu724_ 15 _ _ rfl rfl (by decide)
          have z28_ : (u827_.1 0).toInt = (u724_.1 0).toInt := by rw [eu827_]; rfl
          have z29_ : (u827_.1 1).toInt = (u724_.1 1).toInt := by rw [eu827_]; rfl
          exact okk_some (⟨Iu827_, (by show 0 = 0 ∨ 0 = 1 ∨ 0 = 3 ∨ 0 = 4; omega)⟩)
  · refine okk_bs (v := (1 : Nat)) (by decide) ?_
    refine okk_f (by decide) ?_
    try have t30_ : (0 : Int32).toInt = (0 : Int) := (by decide : (0 : Int32).toInt = 0)
    exact okk_some (⟨I, (by show 1 = 0 ∨ 1 = 1 ∨ 1 = 3 ∨ 1 = 4; omega)⟩)
set_option maxHeartbeats 4000000 in
theorem okk_fcJ_merge {g : Nat → Int32} {u : g_S} (I : IC g u) {p1 : Int32} {p2 : Int32} : okk (fcJ_merge u p1 p2) (fun r => IC g r.2.2 ∧ (r.1 = 0 ∨ r.1 = 1 ∨ r.1 = 3)) := by
  unfold fcJ_merge
  have z1_ := IC_s I
  refine okk_isBelow (fun b2_ => ?_) (fun b2_ => ?_)
  · refine okk_f (by decide) ?_
    refine okk_isBelow (fun b3_ => ?_) (fun b3_ => ?_)
    · refine okk_f (by decide) ?_
      unfold fcJ_merge_33
      refine okk_bs (v := (0 : Nat)) (by decide) ?_
      refine okk_t (by decide) ?_
      refine okk_ck (vp_I (by omega) (by omega)) ?_
      have r5_ := IC_r13 I p2.toNatClampNeg
      refine okk_gl (fun w34_ ew34_ => ?_)
      have t6_ : w34_.toInt = (u.2 13 p2.toNatClampNeg).toInt := by rw [ew34_]
      refine okk_ck (vp_I (by omega) (by omega)) ?_
      try have t8_ : (0 : Int32).toInt = (0 : Int) := (by decide : (0 : Int32).toInt = 0)
      refine okk_ne (fun c7_ c7_I => ?_) (fun c7_ c7_I => ?_)
      · unfold fcJ_merge_80
        refine okk_bs (v := (3 : Nat)) (by decide) ?_
        refine okk_f (by decide) ?_
        exact okk_some (⟨I, (by show 3 = 0 ∨ 3 = 1 ∨ 3 = 3; omega)⟩)
      · refine okk_ck (vp_I (by omega) (by omega)) ?_
        refine okk_ne (fun c9_ c9_I => ?_) (fun c9_ c9_I => ?_)
        · unfold fcJ_merge_80
          refine okk_bs (v := (3 : Nat)) (by decide) ?_
          refine okk_f (by decide) ?_
          exact okk_some (⟨I, (by show 3 = 0 ∨ 3 = 1 ∨ 3 = 3; omega)⟩)
        · refine okk_eq (fun c10_ c10_I => ?_) (fun c10_ c10_I => ?_)
          · unfold fcJ_merge_80
            refine okk_bs (v := (3 : Nat)) (by decide) ?_
            refine okk_f (by decide) ?_
            exact okk_some (⟨I, (by show 3 = 0 ∨ 3 = 1 ∨ 3 = 3; omega)⟩)
          · unfold fcJ_merge_80
            refine okk_bs (v := (0 : Nat)) (by decide) ?_
            refine okk_t (by decide) ?_
            refine okk_ck (vp_I (by omega) (by omega)) ?_
            have r12_ := IC_r19 I p1.toNatClampNeg
            have r13_ := IC_f I p1.toNatClampNeg (Or.inl (by rw [c7_]; decide))
            refine okk_gl (fun w511_ ew511_ => ?_)
            have t14_ : w511_.toInt = (u.2 19 p1.toNatClampNeg).toInt := by rw [ew511_]
            refine okk_ck (vp_I (by omega) (by omega)) ?_
            refine okk_gl (fun u615_ eu615_ => ?_)
            have Iu615_ : IC g u615_ := by rw [eu615_]; exact IC_v14 I _ _ (by omega) (by omega)
            have z16_ : (u615_.1 0).toInt = (u.1 0).toInt := by rw [eu615_]; rfl
            have z17_ : (u615_.1 1).toInt = (u.1 1).toInt := by rw [eu615_]; rfl
            refine okk_ck (vp_I (by omega) (by omega)) ?_
            have t19_ : (5 : Int32).toInt = (5 : Int) := (by decide : (5 : Int32).toInt = 5)
            refine okk_gl (fun u718_ eu718_ => ?_)
            have Iu718_ : IC g u718_ := by rw [eu718_]; exact IC_wx Iu615_ 15 _ _ rfl rfl (by decide)
            have z20_ : (u718_.1 0).toInt = (u615_.1 0).toInt := by rw [eu718_]; rfl
            have z21_ : (u718_.1 1).toInt = (u615_.1 1).toInt := by rw [eu718_]; rfl
            have z22_ := IC_s Iu718_
            refine okk_bi (okk_fcA_moveAll Iu718_ (by omega) (by omega)) (fun v23_ hv23_ => ?_)
            obtain ⟨p24_, p25_, p26_⟩ := hv23_
            refine okk_ck (vp_I (by omega) (by omega)) ?_
            have t28_ : (3 : Int32).toInt = (3 : Int) := (by decide : (3 : Int32).toInt = 3)
            refine okk_gl (fun u927_ eu927_ => ?_)
            have Iu927_ : IC g u927_ := by rw [eu927_]; exact IC_w17m p24_ _ (by have := cl_I (x := p1) (by omega); omega)
            have z29_ : (u927_.1 0).toInt = (v23_.1 0).toInt := by rw [eu927_]; rfl
            have z30_ : (u927_.1 1).toInt = (v23_.1 1).toInt := by rw [eu927_]; rfl
            refine okk_ck (vp_I (by omega) (by omega)) ?_
            have t32_ : (-1 : Int32).toInt = (-1 : Int) := (by decide : (-1 : Int32).toInt = -1)
            refine okk_gl (fun u1031_ eu1031_ => ?_)
            have Iu1031_ : IC g u1031_ := by rw [eu1031_]; exact IC_w19m Iu927_ _ _ (by omega) (by omega) (by rw [eu927_, rdA, if_pos ⟨rfl, rfl⟩]) (by have := cl_I (x := p1) (by omega); omega)
            have z33_ : (u1031_.1 0).toInt = (u927_.1 0).toInt := by rw [eu1031_]; rfl
            have z34_ : (u1031_.1 1).toInt = (u927_.1 1).toInt := by rw [eu1031_]; rfl
            have z35_ := IC_s Iu1031_
            refine okk_bi (okk_fcA_countIn Iu1031_) (fun v36_ hv36_ => ?_)
            have p37_ := hv36_
            exact okk_some (⟨Iu1031_, (by show 0 = 0 ∨ 0 = 1 ∨ 0 = 3; omega)⟩)
    · refine okk_t (by decide) ?_
      unfold fcJ_merge_33
      refine okk_bs (v := (1 : Nat)) (by decide) ?_
      refine okk_f (by decide) ?_
      try have t38_ : (0 : Int32).toInt = (0 : Int) := (by decide : (0 : Int32).toInt = 0)
      exact okk_some (⟨I, (by show 1 = 0 ∨ 1 = 1 ∨ 1 = 3; omega)⟩)
  · refine okk_t (by decide) ?_
    unfold fcJ_merge_33
    refine okk_bs (v := (1 : Nat)) (by decide) ?_
    refine okk_f (by decide) ?_
    try have t39_ : (0 : Int32).toInt = (0 : Int) := (by decide : (0 : Int32).toInt = 0)
    exact okk_some (⟨I, (by show 1 = 0 ∨ 1 = 1 ∨ 1 = 3; omega)⟩)
end
section
set_option maxHeartbeats 4000000 in
theorem okk_fcJ_watch {g : Nat → Int32} {u : g_S} (I : IC g u) {p1 : Int32} {p2 : Int32} {p3 : Int32} {p4 : Int32} : okk (fcJ_watch u p1 p2 p3 p4) (fun r => IC g r.2 ∧ (r.1 = 0 ∨ r.1 = 1 ∨ r.1 = 2 ∨ r.1 = 3)) := by
  unfold fcJ_watch
  have z1_ := IC_s I
  refine okk_isBelow (fun b2_ => ?_) (fun b2_ => ?_)
  · refine okk_f (by decide) ?_
    try have t3_ : (8 : Int32).toInt = (8 : Int) := (by decide : (8 : Int32).toInt = 8)
    refine okk_isBelow (fun b4_ => ?_) (fun b4_ => ?_)
    · refine okk_f (by decide) ?_
      unfold fcJ_watch_28
      refine okk_bs (v := (0 : Nat)) (by decide) ?_
      refine okk_t (by decide) ?_
      refine okk_ck (vp_I (by omega) (by omega)) ?_
      have r5_ := IC_r5 I p2.toNatClampNeg
      refine okk_isBelow (fun b6_ => ?_) (fun b6_ => ?_)
      · refine okk_f (by decide) ?_
        refine okk_ck (vp_I (by omega) (by omega)) ?_
        refine okk_isBelow (fun b7_ => ?_) (fun b7_ => ?_)
        · refine okk_f (by decide) ?_
          refine okk_eq (fun c8_ c8_I => ?_) (fun c8_ c8_I => ?_)
          · unfold fcJ_watch_75
            refine okk_bs (v := (2 : Nat)) (by decide) ?_
            refine okk_f (by decide) ?_
            exact okk_some (⟨I, (by show 2 = 0 ∨ 2 = 1 ∨ 2 = 2 ∨ 2 = 3; omega)⟩)
          · unfold fcJ_watch_75
            refine okk_bs (v := (0 : Nat)) (by decide) ?_
            refine okk_t (by decide) ?_
            refine okk_ck (vp_I (by omega) (by omega)) ?_
            try have t10_ : (0 : Int32).toInt = (0 : Int) := (by decide : (0 : Int32).toInt = 0)
            refine okk_ne (fun c9_ c9_I => ?_) (fun c9_ c9_I => ?_)
            · unfold fcJ_watch_95
              refine okk_bs (v := (3 : Nat)) (by decide) ?_
              refine okk_f (by decide) ?_
              exact okk_some (⟨I, (by show 3 = 0 ∨ 3 = 1 ∨ 3 = 2 ∨ 3 = 3; omega)⟩)
            · unfold fcJ_watch_95
              refine okk_bs (v := (0 : Nat)) (by decide) ?_
              refine okk_t (by decide) ?_
              refine okk_ck (vp_I (by omega) (by omega)) ?_
              refine okk_gl (fun u611_ eu611_ => ?_)
              have Iu611_ : IC g u611_ := by rw [eu611_]; exact IC_v20 I _ _ (by omega) (by omega)
              have z12_ : (u611_.1 0).toInt = (u.1 0).toInt := by rw [eu611_]; rfl
              have z13_ : (u611_.1 1).toInt = (u.1 1).toInt := by rw [eu611_]; rfl
              refine okk_ck (vp_I (by omega) (by omega)) ?_
              have t15_ : (if p4 < p3 then p4 else p3).toInt = p4.toInt ∨ (if p4 < p3 then p4 else p3).toInt = p3.toInt := oi_ite
              refine okk_gl (fun u714_ eu714_ => ?_)
              have Iu714_ : IC g u714_ := by rw [eu714_]; exact IC_v21 Iu611_ _ _ (by omega) (by omega)
              have z16_ : (u714_.1 0).toInt = (u611_.1 0).toInt := by rw [eu714_]; rfl
              have z17_ : (u714_.1 1).toInt = (u611_.1 1).toInt := by rw [eu714_]; rfl
              refine okk_ck (vp_I (by omega) (by omega)) ?_
              have t19_ : (if p3 < p4 then p4 else p3).toInt = p4.toInt ∨ (if p3 < p4 then p4 else p3).toInt = p3.toInt := oi_ite
              refine okk_gl (fun u818_ eu818_ => ?_)
              have Iu818_ : IC g u818_ := by rw [eu818_]; exact IC_v22 Iu714_ _ _ (by omega) (by omega)
              have z20_ : (u818_.1 0).toInt = (u714_.1 0).toInt := by rw [eu818_]; rfl
              have z21_ : (u818_.1 1).toInt = (u714_.1 1).toInt := by rw [eu818_]; rfl
              exact okk_some (⟨Iu818_, (by show 0 = 0 ∨ 0 = 1 ∨ 0 = 2 ∨ 0 = 3; omega)⟩)
        · refine okk_t (by decide) ?_
          unfold fcJ_watch_75
          refine okk_bs (v := (2 : Nat)) (by decide) ?_
          refine okk_f (by decide) ?_
          exact okk_some (⟨I, (by show 2 = 0 ∨ 2 = 1 ∨ 2 = 2 ∨ 2 = 3; omega)⟩)
      · refine okk_t (by decide) ?_
        unfold fcJ_watch_75
        refine okk_bs (v := (2 : Nat)) (by decide) ?_
        refine okk_f (by decide) ?_
        exact okk_some (⟨I, (by show 2 = 0 ∨ 2 = 1 ∨ 2 = 2 ∨ 2 = 3; omega)⟩)
    · refine okk_t (by decide) ?_
      unfold fcJ_watch_28
      refine okk_bs (v := (1 : Nat)) (by decide) ?_
      refine okk_f (by decide) ?_
      exact okk_some (⟨I, (by show 1 = 0 ∨ 1 = 1 ∨ 1 = 2 ∨ 1 = 3; omega)⟩)
  · refine okk_t (by decide) ?_
    unfold fcJ_watch_28
    refine okk_bs (v := (1 : Nat)) (by decide) ?_
    refine okk_f (by decide) ?_
    exact okk_some (⟨I, (by show 1 = 0 ∨ 1 = 1 ∨ 1 = 2 ∨ 1 = 3; omega)⟩)
set_option maxHeartbeats 4000000 in
theorem okk_fcJ_state {g : Nat → Int32} {u : g_S} (I : IC g u) {p1 : Int32} {p2 : Int32} : okk (fcJ_state u p1 p2) (fun r => IC g r.2 ∧ (r.1 = 0 ∨ r.1 = 1 ∨ r.1 = 2 ∨ r.1 = 3)) := by
  unfold fcJ_state
  have z1_ := IC_s I
  refine okk_isBelow (fun b2_ => ?_) (fun b2_ => ?_)
  · refine okk_bs (v := (0 : Nat)) (by decide) ?_
    refine okk_t (by decide) ?_
    try have t4_ : (0 : Int32).toInt = (0 : Int) := (by decide : (0 : Int32).toInt = 0)
    refine okk_lt (fun c3_ c3_I => ?_) (fun c3_ c3_I => ?_)
    · unfold fcJ_state_28
      refine okk_bs (v := (2 : Nat)) (by decide) ?_
      refine okk_f (by decide) ?_
      exact okk_some (⟨I, (by show 2 = 0 ∨ 2 = 1 ∨ 2 = 2 ∨ 2 = 3; omega)⟩)
    · try have t6_ : (2 : Int32).toInt = (2 : Int) := (by decide : (2 : Int32).toInt = 2)
      refine okk_lt (fun c5_ c5_I => ?_) (fun c5_ c5_I => ?_)
      · unfold fcJ_state_28
        refine okk_bs (v := (2 : Nat)) (by decide) ?_
        refine okk_f (by decide) ?_
        exact okk_some (⟨I, (by show 2 = 0 ∨ 2 = 1 ∨ 2 = 2 ∨ 2 = 3; omega)⟩)
      · unfold fcJ_state_28
        refine okk_bs (v := (0 : Nat)) (by decide) ?_
        refine okk_t (by decide) ?_
        refine okk_ck (vp_I (by omega) (by omega)) ?_
        refine okk_eq (fun c7_ c7_I => ?_) (fun c7_ c7_I => ?_)
        · unfold fcJ_state_62
          refine okk_bs (v := (3 : Nat)) (by decide) ?_
          refine okk_f (by decide) ?_
          exact okk_some (⟨I, (by show 3 = 0 ∨ 3 = 1 ∨ 3 = 2 ∨ 3 = 3; omega)⟩)
        · refine okk_ck (vp_I (by omega) (by omega)) ?_
          try have t9_ : (3 : Int32).toInt = (3 : Int) := (by decide : (3 : Int32).toInt = 3)
          refine okk_eq (fun c8_ c8_I => ?_) (fun c8_ c8_I => ?_)
          · unfold fcJ_state_62
            refine okk_bs (v := (3 : Nat)) (by decide) ?_
            refine okk_f (by decide) ?_
            exact okk_some (⟨I, (by show 3 = 0 ∨ 3 = 1 ∨ 3 = 2 ∨ 3 = 3; omega)⟩)
          · unfold fcJ_state_62
            refine okk_bs (v := (0 : Nat)) (by decide) ?_
            refine okk_t (by decide) ?_
            refine okk_ck (vp_I (by omega) (by omega)) ?_
            refine okk_gl (fun u510_ eu510_ => ?_)
            have Iu510_ : IC g u510_ := by rw [eu510_]; exact IC_w17 I _ _ (IC_f I _ (Or.inl c8_))
            have z11_ : (u510_.1 0).toInt = (u.1 0).toInt := by rw [eu510_]; rfl
            have z12_ : (u510_.1 1).toInt = (u.1 1).toInt := by rw [eu510_]; rfl
            exact okk_some (⟨Iu510_, (by show 0 = 0 ∨ 0 = 1 ∨ 0 = 2 ∨ 0 = 3; omega)⟩)
  · refine okk_bs (v := (1 : Nat)) (by decide) ?_
    refine okk_f (by decide) ?_
    exact okk_some (⟨I, (by show 1 = 0 ∨ 1 = 1 ∨ 1 = 2 ∨ 1 = 3; omega)⟩)
set_option maxHeartbeats 4000000 in
theorem okk_fcJ_share {g : Nat → Int32} {u : g_S} (I : IC g u) {p1 : Int32} {p2 : Int32} : okk (fcJ_share u p1 p2) (fun r => (r.1 = 0 ∨ r.1 = 1 ∨ r.1 = 5)) := by
  unfold fcJ_share
  have z1_ := IC_s I
  refine okk_bi (okk_fcJ_needTwoCalls I) (fun v2_ hv2_ => ?_)
  have p3_ := hv2_
  refine okk_if (fun c4_ => ?_) (fun c4_ => ?_)
  · have t5_ : (if p1 < p2 then p2 else p1).toInt = p2.toInt ∨ (if p1 < p2 then p2 else p1).toInt = p1.toInt := oi_ite
    refine okk_ck (vp_I (by omega) (by omega)) ?_
    have r7_ := IC_r8 I (if p1 < p2 then p2 else p1).toNatClampNeg
    refine okk_gl (fun w26_ ew26_ => ?_)
    have t8_ : w26_.toInt = (u.2 8 (if p1 < p2 then p2 else p1).toNatClampNeg).toInt := by rw [ew26_]
    refine okk_ck (vp_I (by omega) (by omega)) ?_
    refine okk_ck (vp_I (by omega) (by omega)) ?_
    refine okk_bi (okk_fcU_weigh I (by omega) (by omega)) (fun v9_ hv9_ => ?_)
    have p10_ := hv9_
    try have t12_ : (0 : Int32).toInt = (0 : Int) := (by decide : (0 : Int32).toInt = 0)
    refine okk_ne (fun c11_ c11_I => ?_) (fun c11_ c11_I => ?_)
    · refine okk_ck (vp_I (by omega) (by omega)) ?_
      refine okk_ck (vp_I (by omega) (by omega)) ?_
      refine okk_bi (okk_fcU_weigh I (by omega) (by omega)) (fun v13_ hv13_ => ?_)
      have p14_ := hv13_
      refine okk_eq (fun c15_ c15_I => ?_) (fun c15_ c15_I => ?_)
      · exfalso; omega
      · exact okk_some ((by show 0 = 0 ∨ 0 = 1 ∨ 0 = 5; omega))
    · exact okk_some ((by show 5 = 0 ∨ 5 = 1 ∨ 5 = 5; omega))
  · try have t16_ : (0 : Int32).toInt = (0 : Int) := (by decide : (0 : Int32).toInt = 0)
    exact okk_some ((by show v2_ = 0 ∨ v2_ = 1 ∨ v2_ = 5; omega))
set_option maxHeartbeats 4000000 in
theorem okk_fcJ_agree {g : Nat → Int32} {u : g_S} (I : IC g u) {p1 : Int32} {p2 : Int32} : okk (fcJ_agree u p1 p2) (fun r => (r.1 = 0 ∨ r.1 = 1)) := by
  unfold fcJ_agree
  have z1_ := IC_s I
  refine okk_bi (okk_fcJ_needTwoCalls I) (fun v2_ hv2_ => ?_)
  have p3_ := hv2_
  refine okk_if (fun c4_ => ?_) (fun c4_ => ?_)
  · have t5_ : (if p2 < p1 then p2 else p1).toInt = p2.toInt ∨ (if p2 < p1 then p2 else p1).toInt = p1.toInt := oi_ite
    have t6_ : (if p1 < p2 then p2 else p1).toInt = p2.toInt ∨ (if p1 < p2 then p2 else p1).toInt = p1.toInt := oi_ite
    refine okk_bi (okk_fcJ_agreement I (by omega) (by omega) (by omega) (by omega)) (fun v7_ hv7_ => ?_)
    have p8_ := hv7_
    exact okk_some ((by show 0 = 0 ∨ 0 = 1; omega))
  · try have t9_ : (0 : Int32).toInt = (0 : Int) := (by decide : (0 : Int32).toInt = 0)
    exact okk_some ((by show v2_ = 0 ∨ v2_ = 1; omega))
set_option maxHeartbeats 4000000 in
theorem okk_fcJ_callAt {g : Nat → Int32} {u : g_S} (I : IC g u) {p1 : Int32} {p2 : Int32} : okk (fcJ_callAt u p1 p2) (fun r => (r.1 = 0 ∨ r.1 = 1)) := by
  unfold fcJ_callAt
  have z1_ := IC_s I
  refine okk_isBelow (fun b2_ => ?_) (fun b2_ => ?_)
  · refine okk_f (by decide) ?_
    try have t3_ : (5 : Int32).toInt = (5 : Int) := (by decide : (5 : Int32).toInt = 5)
    refine okk_isBelow (fun b4_ => ?_) (fun b4_ => ?_)
    · refine okk_f (by decide) ?_
      unfold fcJ_callAt_27
      refine okk_bs (v := (0 : Nat)) (by decide) ?_
      refine okk_t (by decide) ?_
      try have t6_ : (0 : Int32).toInt = (0 : Int) := (by decide : (0 : Int32).toInt = 0)
      refine okk_eq (fun c5_ c5_I => ?_) (fun c5_ c5_I => ?_)
      · refine okk_ck (vp_I (by omega) (by omega)) ?_
        have r7_ := IC_r13 I p1.toNatClampNeg
        exact okk_some ((by show 0 = 0 ∨ 0 = 1; omega))
      · try have t9_ : (1 : Int32).toInt = (1 : Int) := (by decide : (1 : Int32).toInt = 1)
        refine okk_eq (fun c8_ c8_I => ?_) (fun c8_ c8_I => ?_)
        · refine okk_ck (vp_I (by omega) (by omega)) ?_
          have r10_ := IC_r14 I p1.toNatClampNeg
          exact okk_some ((by show 0 = 0 ∨ 0 = 1; omega))
        · try have t12_ : (2 : Int32).toInt = (2 : Int) := (by decide : (2 : Int32).toInt = 2)
          refine okk_eq (fun c11_ c11_I => ?_) (fun c11_ c11_I => ?_)
          · refine okk_ck (vp_I (by omega) (by omega)) ?_
            exact okk_some ((by show 0 = 0 ∨ 0 = 1; omega))
          · try have t14_ : (3 : Int32).toInt = (3 : Int) := (by decide : (3 : Int32).toInt = 3)
            refine okk_eq (fun c13_ c13_I => ?_) (fun c13_ c13_I => ?_)
            · refine okk_ck (vp_I (by omega) (by omega)) ?_
              have r15_ := IC_r8 I p1.toNatClampNeg
              exact okk_some ((by show 0 = 0 ∨ 0 = 1; omega))
            · refine okk_ck (vp_I (by omega) (by omega)) ?_
              exact okk_some ((by show 0 = 0 ∨ 0 = 1; omega))
    · refine okk_t (by decide) ?_
      unfold fcJ_callAt_27
      refine okk_bs (v := (1 : Nat)) (by decide) ?_
      refine okk_f (by decide) ?_
      try have t16_ : (0 : Int32).toInt = (0 : Int) := (by decide : (0 : Int32).toInt = 0)
      exact okk_some ((by show 1 = 0 ∨ 1 = 1; omega))
  · refine okk_t (by decide) ?_
    unfold fcJ_callAt_27
    refine okk_bs (v := (1 : Nat)) (by decide) ?_
    refine okk_f (by decide) ?_
    try have t17_ : (0 : Int32).toInt = (0 : Int) := (by decide : (0 : Int32).toInt = 0)
    exact okk_some ((by show 1 = 0 ∨ 1 = 1; omega))
set_option maxHeartbeats 4000000 in
theorem okk_fcJ_eventAt {g : Nat → Int32} {u : g_S} (I : IC g u) {p1 : Int32} {p2 : Int32} : okk (fcJ_eventAt u p1 p2) (fun r => (r.1 = 0 ∨ r.1 = 1)) := by
  unfold fcJ_eventAt
  have z1_ := IC_s I
  refine okk_isBelow (fun b2_ => ?_) (fun b2_ => ?_)
  · refine okk_f (by decide) ?_
    try have t3_ : (7 : Int32).toInt = (7 : Int) := (by decide : (7 : Int32).toInt = 7)
    refine okk_isBelow (fun b4_ => ?_) (fun b4_ => ?_)
    · refine okk_f (by decide) ?_
      unfold fcJ_eventAt_28
      refine okk_bs (v := (0 : Nat)) (by decide) ?_
      refine okk_t (by decide) ?_
      try have t6_ : (0 : Int32).toInt = (0 : Int) := (by decide : (0 : Int32).toInt = 0)
      refine okk_eq (fun c5_ c5_I => ?_) (fun c5_ c5_I => ?_)
      · refine okk_ck (vp_I (by omega) (by omega)) ?_
        exact okk_some ((by show 0 = 0 ∨ 0 = 1; omega))
      · try have t8_ : (1 : Int32).toInt = (1 : Int) := (by decide : (1 : Int32).toInt = 1)
        refine okk_eq (fun c7_ c7_I => ?_) (fun c7_ c7_I => ?_)
        · refine okk_bi (okk_fcA_countIn I) (fun v9_ hv9_ => ?_)
          have p10_ := hv9_
          exact okk_some ((by show 0 = 0 ∨ 0 = 1; omega))
        · try have t12_ : (2 : Int32).toInt = (2 : Int) := (by decide : (2 : Int32).toInt = 2)
          refine okk_eq (fun c11_ c11_I => ?_) (fun c11_ c11_I => ?_)
          · refine okk_ck (vp_I (by omega) (by omega)) ?_
            exact okk_some ((by show 0 = 0 ∨ 0 = 1; omega))
          · try have t14_ : (3 : Int32).toInt = (3 : Int) := (by decide : (3 : Int32).toInt = 3)
            refine okk_eq (fun c13_ c13_I => ?_) (fun c13_ c13_I => ?_)
            · refine okk_bi (okk_fcA_weighEvent I) (fun v15_ hv15_ => ?_)
              have p16_ := hv15_
              exact okk_some ((by show 0 = 0 ∨ 0 = 1; omega))
            · try have t18_ : (4 : Int32).toInt = (4 : Int) := (by decide : (4 : Int32).toInt = 4)
              refine okk_eq (fun c17_ c17_I => ?_) (fun c17_ c17_I => ?_)
              · refine okk_bi (okk_fcA_pointOf I) (fun v19_ hv19_ => ?_)
                have p20_ := hv19_
                exact okk_some ((by show 0 = 0 ∨ 0 = 1; omega))
              · try have t22_ : (5 : Int32).toInt = (5 : Int) := (by decide : (5 : Int32).toInt = 5)
                refine okk_eq (fun c21_ c21_I => ?_) (fun c21_ c21_I => ?_)
                · refine okk_ck (vp_I (by omega) (by omega)) ?_
                  have r23_ := IC_r19 I p1.toNatClampNeg
                  exact okk_some ((by show 0 = 0 ∨ 0 = 1; omega))
                · refine okk_bi (okk_fcA_latestTimeOf I) (fun v24_ hv24_ => ?_)
                  have p25_ := hv24_
                  exact okk_some ((by show 0 = 0 ∨ 0 = 1; omega))
    · refine okk_t (by decide) ?_
      unfold fcJ_eventAt_28
      refine okk_bs (v := (1 : Nat)) (by decide) ?_
      refine okk_f (by decide) ?_
      try have t26_ : (0 : Int32).toInt = (0 : Int) := (by decide : (0 : Int32).toInt = 0)
      exact okk_some ((by show 1 = 0 ∨ 1 = 1; omega))
  · refine okk_t (by decide) ?_
    unfold fcJ_eventAt_28
    refine okk_bs (v := (1 : Nat)) (by decide) ?_
    refine okk_f (by decide) ?_
    try have t27_ : (0 : Int32).toInt = (0 : Int) := (by decide : (0 : Int32).toInt = 0)
    exact okk_some ((by show 1 = 0 ∨ 1 = 1; omega))
set_option maxHeartbeats 4000000 in
theorem okk_fcJ_member {g : Nat → Int32} {u : g_S} (I : IC g u) {p1 : Int32} {p2 : Int32} : okk (fcJ_member u p1 p2) (fun r => (r.1 = 0 ∨ r.1 = 1 ∨ r.1 = 2)) := by
  unfold fcJ_member
  have z1_ := IC_s I
  refine okk_isBelow (fun b2_ => ?_) (fun b2_ => ?_)
  · refine okk_bs (v := (0 : Nat)) (by decide) ?_
    refine okk_t (by decide) ?_
    refine okk_bi (okk_fcA_memberOf I) (fun v3_ hv3_ => ?_)
    have p4_ := hv3_
    try have t6_ : (-1 : Int32).toInt = (-1 : Int) := (by decide : (-1 : Int32).toInt = -1)
    refine okk_eq (fun c5_ c5_I => ?_) (fun c5_ c5_I => ?_)
    · refine okk_bs (v := (2 : Nat)) (by decide) ?_
      refine okk_f (by decide) ?_
      try have t7_ : (0 : Int32).toInt = (0 : Int) := (by decide : (0 : Int32).toInt = 0)
      exact okk_some ((by show 2 = 0 ∨ 2 = 1 ∨ 2 = 2; omega))
    · refine okk_bs (v := (0 : Nat)) (by decide) ?_
      refine okk_t (by decide) ?_
      exact okk_some ((by show 0 = 0 ∨ 0 = 1 ∨ 0 = 2; omega))
  · refine okk_bs (v := (1 : Nat)) (by decide) ?_
    refine okk_f (by decide) ?_
    try have t8_ : (0 : Int32).toInt = (0 : Int) := (by decide : (0 : Int32).toInt = 0)
    exact okk_some ((by show 1 = 0 ∨ 1 = 1 ∨ 1 = 2; omega))
set_option maxHeartbeats 4000000 in
theorem okk_fcJ_count {g : Nat → Int32} {u : g_S} (I : IC g u) {p1 : Int32} : okk (fcJ_count u p1) (fun r => (r.1 = 0 ∨ r.1 = 1)) := by
  unfold fcJ_count
  have z1_ := IC_s I
  try have t2_ : (4 : Int32).toInt = (4 : Int) := (by decide : (4 : Int32).toInt = 4)
  refine okk_isBelow (fun b3_ => ?_) (fun b3_ => ?_)
  · refine okk_bs (v := (0 : Nat)) (by decide) ?_
    refine okk_t (by decide) ?_
    try have t5_ : (0 : Int32).toInt = (0 : Int) := (by decide : (0 : Int32).toInt = 0)
    refine okk_eq (fun c4_ c4_I => ?_) (fun c4_ c4_I => ?_)
    · exact okk_some ((by show 0 = 0 ∨ 0 = 1; omega))
    · try have t7_ : (1 : Int32).toInt = (1 : Int) := (by decide : (1 : Int32).toInt = 1)
      refine okk_eq (fun c6_ c6_I => ?_) (fun c6_ c6_I => ?_)
      · exact okk_some ((by show 0 = 0 ∨ 0 = 1; omega))
      · try have t9_ : (2 : Int32).toInt = (2 : Int) := (by decide : (2 : Int32).toInt = 2)
        refine okk_eq (fun c8_ c8_I => ?_) (fun c8_ c8_I => ?_)
        · refine okk_bi (okk_fcE_countOpen I) (fun v10_ hv10_ => ?_)
          have p11_ := hv10_
          exact okk_some ((by show 0 = 0 ∨ 0 = 1; omega))
        · refine okk_bi (okk_fcA_countHoaxes I) (fun v12_ hv12_ => ?_)
          have p13_ := hv12_
          exact okk_some ((by show 0 = 0 ∨ 0 = 1; omega))
  · refine okk_bs (v := (1 : Nat)) (by decide) ?_
    refine okk_f (by decide) ?_
    try have t14_ : (0 : Int32).toInt = (0 : Int) := (by decide : (0 : Int32).toInt = 0)
    exact okk_some ((by show 1 = 0 ∨ 1 = 1; omega))
end
section
section HN1
variable {g : Nat → Int32} {u : g_S}
theorem okk_fm_firstOf_2 (I : IM g u) : ∀ (n : Nat) (x1 x2 : Int32), 0 ≤ x2.toInt → x2.toInt ≤ 120 → 121 ≤ (n : Int) + x2.toInt → okk (fm_firstOf_2 u n x1 x2) (fun r => -1 ≤ r.toInt ∧ r.toInt < (u.1 1).toInt ∧ (0 ≤ r.toInt → u.2 12 r.toNatClampNeg = x1 ∧ (u.2 13 r.toNatClampNeg).toInt < 0) ∧ (r.toInt < 0 → ∀ c : Nat, x2.toInt ≤ (c : Int) → (c : Int) < (u.1 1).toInt → ¬ (u.2 12 c = x1 ∧ (u.2 13 c).toInt < 0))) := by
  have z0 : (0 : Int32).toInt = 0 := by decide
  have zm : (-1 : Int32).toInt = -1 := by decide
  have z := IM_s I
  intro n
  induction n with
  | zero =>
    intro x1 x2 h0 h1 hf
    exfalso; omega
  | succ n ih =>
    intro x1 x2 h0 h1 hf
    rw [fm_firstOf_2_s]
    refine okk_le (fun c cI => ?_) (fun c cI => ?_)
    · exact okk_some ⟨by omega, by omega, fun q => absurd q (by omega), fun _ c h2 h3 => absurd h3 (by omega)⟩
    · have t : (x2 + (1 : Int32)).toInt = x2.toInt + 1 := oi_add rfl (by decide) (by omega) (by omega)
      have hcl : (x2.toNatClampNeg : Int) = x2.toInt := cl_I (by omega)
      have hrec : ¬ (u.2 12 x2.toNatClampNeg = x1 ∧ (u.2 13 x2.toNatClampNeg).toInt < 0) → okk (fm_firstOf_2 u n x1 (x2 + (1 : Int32))) (fun r => -1 ≤ r.toInt ∧ r.toInt < (u.1 1).toInt ∧ (0 ≤ r.toInt → u.2 12 r.toNatClampNeg = x1 ∧ (u.2 13 r.toNatClampNeg).toInt < 0) ∧ (r.toInt < 0 → ∀ c : Nat, x2.toInt ≤ (c : Int) → (c : Int) < (u.1 1).toInt → ¬ (u.2 12 c = x1 ∧ (u.2 13 c).toInt < 0))) := by
        intro hne
        refine okk_mono (ih x1 (x2 + (1 : Int32)) (by omega) (by omega) (by omega)) (fun r hr => ?_)
        obtain ⟨a1, a2, a3, a4⟩ := hr
        refine ⟨a1, a2, a3, fun q c h2 h3 => ?_⟩
        by_cases e : c = x2.toNatClampNeg
        · rw [e]; exact hne
        · exact a4 q c (by omega) h3
      refine okk_ck (vp_I (by omega) (by omega)) ?_
      refine okk_ne (fun d dI => ?_) (fun d dI => ?_)
      · exact hrec (fun q => d q.1)
      · refine okk_ck (vp_I (by omega) (by omega)) ?_
        refine okk_le (fun f fI => ?_) (fun f fI => ?_)
        · exact hrec (fun q => by have := q.2; omega)
        · exact okk_some ⟨by omega, by omega, fun _ => ⟨d, by omega⟩, fun q => absurd q (by omega)⟩
theorem okk_firstS (I : IM g u) {p1 : Int32} : okk (fm_firstOf u p1) (fun r => -1 ≤ r.toInt ∧ r.toInt < (u.1 1).toInt ∧ (0 ≤ r.toInt → u.2 12 r.toNatClampNeg = p1 ∧ (u.2 13 r.toNatClampNeg).toInt < 0) ∧ (r.toInt < 0 → ∀ c : Nat, (c : Int) < (u.1 1).toInt → ¬ (u.2 12 c = p1 ∧ (u.2 13 c).toInt < 0))) := by
  have z0 : (0 : Int32).toInt = 0 := by decide
  unfold fm_firstOf
  refine okk_mono (okk_fm_firstOf_2 I 200 p1 (0 : Int32) (by omega) (by omega) (by omega)) (fun r hr => ?_)
  obtain ⟨a1, a2, a3, a4⟩ := hr
  exact ⟨a1, a2, a3, fun q c h => a4 q c (by omega) h⟩
theorem okk_fm_firstOf (I : IM g u) {p1 : Int32} : okk (fm_firstOf u p1) (fun r => (-1 ≤ r.toInt ∧ r.toInt < (u.1 1).toInt)) := okk_mono (okk_firstS I) (fun _ h => ⟨h.1, h.2.1⟩)
theorem okk_firstO (I : IM g u) {e : Int32} (h0 : 0 ≤ e.toInt) (h1 : e.toInt < (u.1 2).toInt) (h2 : ¬ u.2 16 e.toNatClampNeg = 3) : okk (fm_firstOf u e) (fun r => 0 ≤ r.toInt ∧ r.toInt < (u.1 1).toInt ∧ u.2 12 r.toNatClampNeg = e ∧ (u.2 13 r.toNatClampNeg).toInt < 0) := by
  have hc : (e.toNatClampNeg : Int) = e.toInt := cl_I h0
  obtain ⟨c, a1, a2, a3⟩ := IM_f I e.toNatClampNeg (by omega) h2
  refine okk_mono (okk_firstS I) (fun r hr => ?_)
  obtain ⟨b1, b2, b3, b4⟩ := hr
  have hr0 : 0 ≤ r.toInt := by
    by_cases q : r.toInt < 0
    · exact absurd ⟨Int32.toInt_inj.mp (by omega), a3⟩ (b4 q c a1)
    · omega
  exact ⟨hr0, b2, (b3 hr0).1, (b3 hr0).2⟩
end HN1
end
section
set_option maxHeartbeats 4000000 in
theorem okk_fm_squareOf {p0 : Int32} {p1 : Int32} : okk (fm_squareOf p0 p1) (fun r => True) := by
  unfold fm_squareOf
  refine okk_gl (fun w11_ ew11_ => ?_)
  refine okk_gl (fun w22_ ew22_ => ?_)
  exact okk_some (trivial)
set_option maxHeartbeats 4000000 in
theorem okk_fm_sum_5 {g : Nat → Int32} {u : g_S} (I : IM g u) : ∀ (n : Nat) (x1 : Int32) (x2 : Int32) (x3 : Int32) (x4 : Int32), 0 ≤ x4.toInt → x4.toInt ≤ 32 → 0 ≤ x2.toInt → x2.toInt ≤ 7 → 33 ≤ (n : Int) + x4.toInt → okk (fm_sum_5 u n x1 x2 x3 x4) (fun r => True) := by
  intro n
  induction n with
  | zero =>
    intro x1 x2 x3 x4 h0 h1 h2 h3 hf
    exfalso; omega
  | succ n ih =>
    intro x1 x2 x3 x4 h0 h1 h2 h3 hf
    rw [fm_sum_5_s]
    have z1_ := IM_s I
    try have t3_ : (32 : Int32).toInt = (32 : Int) := (by decide : (32 : Int32).toInt = 32)
    refine okk_le (fun c2_ c2_I => ?_) (fun c2_ c2_I => ?_)
    · exact okk_some (trivial)
    · try have t5_ : (1 : Int32).toInt = (1 : Int) := (by decide : (1 : Int32).toInt = 1)
      refine okk_ne (fun c4_ c4_I => ?_) (fun c4_ c4_I => ?_)
      · try have t7_ : (x3 + (0 : Int32)).toInt = (x3.toInt + (0 : Int)) := (oi_add (a := x3) (b := (0 : Int32)) rfl (by decide : (0 : Int32).toInt = 0) (by omega) (by omega))
        refine okk_gl (fun w16_ ew16_ => ?_)
        have t8_ : w16_.toInt = (x3 + (0 : Int32)).toInt := by rw [ew16_]
        have t9_ : (x4 + (1 : Int32)).toInt = (x4.toInt + (1 : Int)) := (oi_add (a := x4) (b := (1 : Int32)) rfl (by decide : (1 : Int32).toInt = 1) (by omega) (by omega))
        exact ih x1 x2 w16_ (x4 + (1 : Int32)) (by omega) (by omega) (by omega) (by omega) (by omega)
      · have t10_ : (((32 : Int32) * x2) + x4).toInt = (((32 : Int) * x2.toInt) + x4.toInt) := (oi_add (a := ((32 : Int32) * x2)) (b := x4) (oi_mul (a := (32 : Int32)) (b := x2) (by decide : (32 : Int32).toInt = 32) rfl (by omega) (by omega)) rfl (by omega) (by omega))
        refine okk_ck (vp_I (by omega) (by omega)) ?_
        try have t12_ : (x3 + (u.2 4 (((32 : Int32) * x2) + x4).toNatClampNeg)).toInt = (x3.toInt + (u.2 4 (((32 : Int32) * x2) + x4).toNatClampNeg).toInt) := (oi_add (a := x3) (b := (u.2 4 (((32 : Int32) * x2) + x4).toNatClampNeg)) rfl rfl (by omega) (by omega))
        refine okk_gl (fun w211_ ew211_ => ?_)
        have t13_ : w211_.toInt = (x3 + (u.2 4 (((32 : Int32) * x2) + x4).toNatClampNeg)).toInt := by rw [ew211_]
        have t14_ : (x4 + (1 : Int32)).toInt = (x4.toInt + (1 : Int)) := (oi_add (a := x4) (b := (1 : Int32)) rfl (by decide : (1 : Int32).toInt = 1) (by omega) (by omega))
        exact ih x1 x2 w211_ (x4 + (1 : Int32)) (by omega) (by omega) (by omega) (by omega) (by omega)
set_option maxHeartbeats 4000000 in
theorem okk_fm_sum {g : Nat → Int32} {u : g_S} (I : IM g u) {p1 : Int32} {p2 : Int32} (h0 : 0 ≤ p2.toInt) (h1 : p2.toInt ≤ 7) : okk (fm_sum u p1 p2) (fun r => True) := by
  unfold fm_sum
  have z1_ := IM_s I
  have t2_ : (0 : Int32).toInt = (0 : Int) := (by decide : (0 : Int32).toInt = 0)
  exact okk_fm_sum_5 I 200 p1 p2 (0 : Int32) (0 : Int32) (by omega) (by omega) (by omega) (by omega) (by omega)
set_option maxHeartbeats 4000000 in
theorem okk_fm_isEnough {g : Nat → Int32} {u : g_S} (I : IM g u) {p1 : Int32} {p2 : Int32} {p3 : Int32} (h0 : 0 ≤ p3.toInt) (h1 : p3.toInt ≤ 7) : okk (fm_isEnough u p1 p2 p3) (fun r => True) := by
  unfold fm_isEnough
  have z1_ := IM_s I
  refine okk_bi (okk_fm_sum I (by omega) (by omega)) (fun v2_ hv2_ => ?_)
  have p3_ := hv2_
  refine okk_ck (vp_I (by omega) (by omega)) ?_
  refine okk_ck (vp_I (by omega) (by omega)) ?_
  refine okk_bi (okk_fm_sum I (by omega) (by omega)) (fun v4_ hv4_ => ?_)
  have p5_ := hv4_
  try have t7_ : (v2_ * (u.2 3 p3.toNatClampNeg)).toInt = (v2_.toInt * (u.2 3 p3.toNatClampNeg).toInt) := (oi_mul (a := v2_) (b := (u.2 3 p3.toNatClampNeg)) rfl rfl (by omega) (by omega))
  try have t8_ : ((u.2 2 p3.toNatClampNeg) * v4_).toInt = ((u.2 2 p3.toNatClampNeg).toInt * v4_.toInt) := (oi_mul (a := (u.2 2 p3.toNatClampNeg)) (b := v4_) rfl rfl (by omega) (by omega))
  refine okk_lt (fun c6_ c6_I => ?_) (fun c6_ c6_I => ?_)
  · exact okk_some (trivial)
  · exact okk_some (trivial)
set_option maxHeartbeats 4000000 in
theorem okk_fm_meets {g : Nat → Int32} {u : g_S} (I : IM g u) {p1 : Int32} {p2 : Int32} {p3 : Int32} {p4 : Int32} {p5 : Int32} (h0 : 0 ≤ p1.toInt) (h1 : p1.toInt ≤ 119) (h2 : 0 ≤ p2.toInt) (h3 : p2.toInt ≤ 7) : okk (fm_meets u p1 p2 p3 p4 p5) (fun r => True) := by
  unfold fm_meets
  have z1_ := IM_s I
  refine okk_ck (vp_I (by omega) (by omega)) ?_
  refine okk_ck (vp_I (by omega) (by omega)) ?_
  try have t3_ : (0 : Int32).toInt = (0 : Int) := (by decide : (0 : Int32).toInt = 0)
  refine okk_le (fun c2_ c2_I => ?_) (fun c2_ c2_I => ?_)
  · refine okk_ck (vp_I (by omega) (by omega)) ?_
    refine okk_bi (okk_fm_sum I (by omega) (by omega)) (fun v4_ hv4_ => ?_)
    have p5_ := hv4_
    refine okk_le (fun c6_ c6_I => ?_) (fun c6_ c6_I => ?_)
    · unfold fm_meets_46
      refine okk_ck (vp_I (by omega) (by omega)) ?_
      refine okk_lt (fun c7_ c7_I => ?_) (fun c7_ c7_I => ?_)
      · unfold fm_meets_157
        refine okk_t (by decide) ?_
        exact okk_some (trivial)
      · refine okk_lt (fun c8_ c8_I => ?_) (fun c8_ c8_I => ?_)
        · unfold fm_meets_157
          refine okk_t (by decide) ?_
          exact okk_some (trivial)
        · refine okk_ck (vp_I (by omega) (by omega)) ?_
          refine okk_bi (okk_fm_squareOf ) (fun v9_ hv9_ => ?_)
          have p10_ := hv9_
          refine okk_ck (vp_I (by omega) (by omega)) ?_
          refine okk_ck (vp_I (by omega) (by omega)) ?_
          refine okk_gl (fun w411_ ew411_ => ?_)
          refine okk_t (by decide) ?_
          refine okk_lt (fun c12_ c12_I => ?_) (fun c12_ c12_I => ?_)
          · unfold fm_meets_144
            refine okk_t (by decide) ?_
            exact okk_some (trivial)
          · unfold fm_meets_144
            refine okk_f (by decide) ?_
            exact okk_some (trivial)
    · unfold fm_meets_46
      refine okk_ck (vp_I (by omega) (by omega)) ?_
      refine okk_lt (fun c13_ c13_I => ?_) (fun c13_ c13_I => ?_)
      · unfold fm_meets_157
        refine okk_f (by decide) ?_
        refine okk_ck (vp_I (by omega) (by omega)) ?_
        refine okk_bi (okk_fm_isEnough I (by omega) (by omega)) (fun v14_ hv14_ => ?_)
        have p15_ := hv14_
        refine okk_eq (fun c16_ c16_I => ?_) (fun c16_ c16_I => ?_)
        · exact okk_some (trivial)
        · exact okk_some (trivial)
      · refine okk_lt (fun c17_ c17_I => ?_) (fun c17_ c17_I => ?_)
        · unfold fm_meets_157
          refine okk_f (by decide) ?_
          refine okk_ck (vp_I (by omega) (by omega)) ?_
          refine okk_bi (okk_fm_isEnough I (by omega) (by omega)) (fun v18_ hv18_ => ?_)
          have p19_ := hv18_
          refine okk_eq (fun c20_ c20_I => ?_) (fun c20_ c20_I => ?_)
          · exact okk_some (trivial)
          · exact okk_some (trivial)
        · refine okk_ck (vp_I (by omega) (by omega)) ?_
          refine okk_bi (okk_fm_squareOf ) (fun v21_ hv21_ => ?_)
          have p22_ := hv21_
          refine okk_ck (vp_I (by omega) (by omega)) ?_
          refine okk_ck (vp_I (by omega) (by omega)) ?_
          refine okk_gl (fun w423_ ew423_ => ?_)
          refine okk_f (by decide) ?_
          refine okk_lt (fun c24_ c24_I => ?_) (fun c24_ c24_I => ?_)
          · unfold fm_meets_144
            refine okk_t (by decide) ?_
            exact okk_some (trivial)
          · refine okk_ck (vp_I (by omega) (by omega)) ?_
            refine okk_bi (okk_fm_isEnough I (by omega) (by omega)) (fun v25_ hv25_ => ?_)
            have p26_ := hv25_
            refine okk_eq (fun c27_ c27_I => ?_) (fun c27_ c27_I => ?_)
            · unfold fm_meets_144
              refine okk_t (by decide) ?_
              exact okk_some (trivial)
            · unfold fm_meets_144
              refine okk_f (by decide) ?_
              exact okk_some (trivial)
  · exact okk_some (trivial)
set_option maxHeartbeats 4000000 in
theorem okk_fm_isOpen {g : Nat → Int32} {u : g_S} (I : IM g u) {p1 : Int32} (h0 : 0 ≤ p1.toInt) (h1 : p1.toInt ≤ 119) : okk (fm_isOpen u p1) (fun r => True) := by
  unfold fm_isOpen
  have z1_ := IM_s I
  refine okk_ck (vp_I (by omega) (by omega)) ?_
  have r2_ := IM_r12 I p1.toNatClampNeg
  refine okk_ck (vp_I (by omega) (by omega)) ?_
  try have t4_ : (0 : Int32).toInt = (0 : Int) := (by decide : (0 : Int32).toInt = 0)
  refine okk_ne (fun c3_ c3_I => ?_) (fun c3_ c3_I => ?_)
  · exact okk_some (trivial)
  · exact okk_some (trivial)
set_option maxHeartbeats 4000000 in
theorem okk_fm_isHoax {g : Nat → Int32} {u : g_S} (I : IM g u) {p1 : Int32} (h0 : 0 ≤ p1.toInt) (h1 : p1.toInt ≤ 119) : okk (fm_isHoax u p1) (fun r => True) := by
  unfold fm_isHoax
  have z1_ := IM_s I
  refine okk_ck (vp_I (by omega) (by omega)) ?_
  try have t3_ : (0 : Int32).toInt = (0 : Int) := (by decide : (0 : Int32).toInt = 0)
  refine okk_eq (fun c2_ c2_I => ?_) (fun c2_ c2_I => ?_)
  · exact okk_some (trivial)
  · exact okk_some (trivial)
set_option maxHeartbeats 4000000 in
theorem okk_fm_isBeside {p0 : Int32} {p1 : Int32} {p2 : Int32} : okk (fm_isBeside p0 p1 p2) (fun r => True) := by
  unfold fm_isBeside
  refine okk_gl (fun w11_ ew11_ => ?_)
  refine okk_gl (fun w22_ ew22_ => ?_)
  refine okk_gl (fun w33_ ew33_ => ?_)
  refine okk_gl (fun w44_ ew44_ => ?_)
  refine okk_gl (fun w55_ ew55_ => ?_)
  refine okk_gl (fun w66_ ew66_ => ?_)
  try have t8_ : (0 : Int32).toInt = (0 : Int) := (by decide : (0 : Int32).toInt = 0)
  refine okk_lt (fun c7_ c7_I => ?_) (fun c7_ c7_I => ?_)
  · refine okk_lt (fun c9_ c9_I => ?_) (fun c9_ c9_I => ?_)
    · refine okk_gl (fun w710_ ew710_ => ?_)
      refine okk_lt (fun c11_ c11_I => ?_) (fun c11_ c11_I => ?_)
      · exact okk_some (trivial)
      · exact okk_some (trivial)
    · refine okk_bi (okk_fm_squareOf ) (fun v12_ hv12_ => ?_)
      have p13_ := hv12_
      refine okk_lt (fun c14_ c14_I => ?_) (fun c14_ c14_I => ?_)
      · exact okk_some (trivial)
      · exact okk_some (trivial)
  · refine okk_lt (fun c15_ c15_I => ?_) (fun c15_ c15_I => ?_)
    · exact okk_some (trivial)
    · exact okk_some (trivial)
set_option maxHeartbeats 4000000 in
theorem okk_fm_isOn_77 {g : Nat → Int32} {u : g_S} (I : IM g u) : ∀ (n : Nat) (x1 : Int32) (x2 : Int32) (x5 : Int32) (x6 : Int32) (x7 : Int32), 0 ≤ x7.toInt → x7.toInt ≤ 7 → 0 ≤ x1.toInt → x1.toInt ≤ 59 → 0 ≤ (u.2 17 x1.toNatClampNeg).toInt → x5.toInt ≤ 7 → (x6 = 0 ∨ x6 = 1) → 8 ≤ (n : Int) + x7.toInt → okk (fm_isOn_77 u n x1 x2 x5 x6 x7) (fun r => True) := by
  intro n
  induction n with
  | zero =>
    intro x1 x2 x5 x6 x7 h0 h1 h2 h3 h4 h5 h6 hf
    exfalso; omega
  | succ n ih =>
    intro x1 x2 x5 x6 x7 h0 h1 h2 h3 h4 h5 h6 hf
    rw [fm_isOn_77_s]
    have z1_ := IM_s I
    refine okk_le (fun c2_ c2_I => ?_) (fun c2_ c2_I => ?_)
    · refine okk_t h6 ?_
      exact okk_some (trivial)
    · try have t4_ : (0 : Int32).toInt = (0 : Int) := (by decide : (0 : Int32).toInt = 0)
      refine okk_ne (fun c3_ c3_I => ?_) (fun c3_ c3_I => ?_)
      · have t5_ : (1 : Int32).toInt = (1 : Int) := (by decide : (1 : Int32).toInt = 1)
        have t6_ : (x7 + (1 : Int32)).toInt = (x7.toInt + (1 : Int)) := (oi_add (a := x7) (b := (1 : Int32)) rfl (by decide : (1 : Int32).toInt = 1) (by omega) (by omega))
        have r7_ := IM_r17 I x1.toNatClampNeg
        exact ih x1 x2 x5 (1 : Int32) (x7 + (1 : Int32)) (by omega) (by omega) (by omega) (by omega) (by omega) (by omega) (by decide) (by omega)
      · refine okk_ck (vp_I (by omega) (by omega)) ?_
        have r8_ := IM_r17 I x1.toNatClampNeg
        have t9_ : (((8 : Int32) * (u.2 17 x1.toNatClampNeg)) + x7).toInt = (((8 : Int) * (u.2 17 x1.toNatClampNeg).toInt) + x7.toInt) := (oi_add (a := ((8 : Int32) * (u.2 17 x1.toNatClampNeg))) (b := x7) (oi_mul (a := (8 : Int32)) (b := (u.2 17 x1.toNatClampNeg)) (by decide : (8 : Int32).toInt = 8) rfl (by omega) (by omega)) rfl (by omega) (by omega))
        refine okk_ck (vp_I (by omega) (by omega)) ?_
        refine okk_ck (vp_I (by omega) (by omega)) ?_
        have t10_ : ((((8 : Int32) * (u.2 17 x1.toNatClampNeg)) + x7) + (1 : Int32)).toInt = ((((8 : Int) * (u.2 17 x1.toNatClampNeg).toInt) + x7.toInt) + (1 : Int)) := (oi_add (a := (((8 : Int32) * (u.2 17 x1.toNatClampNeg)) + x7)) (b := (1 : Int32)) (oi_add (a := ((8 : Int32) * (u.2 17 x1.toNatClampNeg))) (b := x7) (oi_mul (a := (8 : Int32)) (b := (u.2 17 x1.toNatClampNeg)) (by decide : (8 : Int32).toInt = 8) rfl (by omega) (by omega)) rfl (by omega) (by omega)) (by decide : (1 : Int32).toInt = 1) (by omega) (by omega))
        refine okk_ck (vp_I (by omega) (by omega)) ?_
        refine okk_bi (okk_fm_isBeside ) (fun v11_ hv11_ => ?_)
        have p12_ := hv11_
        refine okk_eq (fun c13_ c13_I => ?_) (fun c13_ c13_I => ?_)
        · have t14_ : (x7 + (1 : Int32)).toInt = (x7.toInt + (1 : Int)) := (oi_add (a := x7) (b := (1 : Int32)) rfl (by decide : (1 : Int32).toInt = 1) (by omega) (by omega))
          exact ih x1 x2 x5 (0 : Int32) (x7 + (1 : Int32)) (by omega) (by omega) (by omega) (by omega) (by omega) (by omega) (by decide) (by omega)
        · have t15_ : (1 : Int32).toInt = (1 : Int) := (by decide : (1 : Int32).toInt = 1)
          have t16_ : (x7 + (1 : Int32)).toInt = (x7.toInt + (1 : Int)) := (oi_add (a := x7) (b := (1 : Int32)) rfl (by decide : (1 : Int32).toInt = 1) (by omega) (by omega))
          exact ih x1 x2 x5 (1 : Int32) (x7 + (1 : Int32)) (by omega) (by omega) (by omega) (by omega) (by omega) (by omega) (by decide) (by omega)
set_option maxHeartbeats 4000000 in
theorem okk_fm_isOn {g : Nat → Int32} {u : g_S} (I : IM g u) {p1 : Int32} {p2 : Int32} {p3 : Int32} (h0 : 0 ≤ p1.toInt) (h1 : p1.toInt ≤ 59) (h2 : 0 ≤ (u.2 17 p1.toNatClampNeg).toInt) : okk (fm_isOn u p1 p2 p3) (fun r => True) := by
  unfold fm_isOn
  have z1_ := IM_s I
  try have t3_ : (0 : Int32).toInt = (0 : Int) := (by decide : (0 : Int32).toInt = 0)
  refine okk_le (fun c2_ c2_I => ?_) (fun c2_ c2_I => ?_)
  · refine okk_ck (vp_I (by omega) (by omega)) ?_
    refine okk_ck (vp_I (by omega) (by omega)) ?_
    have r5_ := IM_r19 I p1.toNatClampNeg
    have r6_ := IM_r18 I p1.toNatClampNeg
    refine okk_le (fun c4_ c4_I => ?_) (fun c4_ c4_I => ?_)
    · refine okk_ck (vp_I (by omega) (by omega)) ?_
      unfold fm_isOn_50
      refine okk_ck (vp_I (by omega) (by omega)) ?_
      refine okk_ck (vp_I (by omega) (by omega)) ?_
      try have t8_ : (((u.2 18 p1.toNatClampNeg) + (u.2 19 p1.toNatClampNeg)) - (u.2 19 p1.toNatClampNeg)).toInt = (((u.2 18 p1.toNatClampNeg).toInt + (u.2 19 p1.toNatClampNeg).toInt) - (u.2 19 p1.toNatClampNeg).toInt) := (oi_sub (a := ((u.2 18 p1.toNatClampNeg) + (u.2 19 p1.toNatClampNeg))) (b := (u.2 19 p1.toNatClampNeg)) (oi_add (a := (u.2 18 p1.toNatClampNeg)) (b := (u.2 19 p1.toNatClampNeg)) rfl rfl (by omega) (by omega)) rfl (by omega) (by omega))
      refine okk_gl (fun w17_ ew17_ => ?_)
      have t9_ : w17_.toInt = (((u.2 18 p1.toNatClampNeg) + (u.2 19 p1.toNatClampNeg)) - (u.2 19 p1.toNatClampNeg)).toInt := by rw [ew17_]
      have r10_ := IM_r17 I p1.toNatClampNeg
      exact okk_fm_isOn_77 I 200 p1 p2 w17_ (0 : Int32) (u.2 19 p1.toNatClampNeg) (by omega) (by omega) (by omega) (by omega) (by omega) (by omega) (by decide) (by omega)
    · refine okk_ck (vp_I (by omega) (by omega)) ?_
      unfold fm_isOn_50
      refine okk_ck (vp_I (by omega) (by omega)) ?_
      refine okk_ck (vp_I (by omega) (by omega)) ?_
      try have t12_ : (((u.2 18 p1.toNatClampNeg) + (u.2 19 p1.toNatClampNeg)) - (u.2 18 p1.toNatClampNeg)).toInt = (((u.2 18 p1.toNatClampNeg).toInt + (u.2 19 p1.toNatClampNeg).toInt) - (u.2 18 p1.toNatClampNeg).toInt) := (oi_sub (a := ((u.2 18 p1.toNatClampNeg) + (u.2 19 p1.toNatClampNeg))) (b := (u.2 18 p1.toNatClampNeg)) (oi_add (a := (u.2 18 p1.toNatClampNeg)) (b := (u.2 19 p1.toNatClampNeg)) rfl rfl (by omega) (by omega)) rfl (by omega) (by omega))
      refine okk_gl (fun w111_ ew111_ => ?_)
      have t13_ : w111_.toInt = (((u.2 18 p1.toNatClampNeg) + (u.2 19 p1.toNatClampNeg)) - (u.2 18 p1.toNatClampNeg)).toInt := by rw [ew111_]
      have r14_ := IM_r17 I p1.toNatClampNeg
      exact okk_fm_isOn_77 I 200 p1 p2 w111_ (0 : Int32) (u.2 18 p1.toNatClampNeg) (by omega) (by omega) (by omega) (by omega) (by omega) (by omega) (by decide) (by omega)
  · refine okk_ck (vp_I (by omega) (by omega)) ?_
    have r16_ := IM_r17 I p1.toNatClampNeg
    refine okk_ne (fun c15_ c15_I => ?_) (fun c15_ c15_I => ?_)
    · exact okk_some (trivial)
    · exact okk_some (trivial)
set_option maxHeartbeats 4000000 in
theorem okk_fm_again_6 {g : Nat → Int32} {u : g_S} (I : IM g u) : ∀ (n : Nat) (x1 : Int32) (x2 : Int32) (x3 : Int32) (x4 : Int32) (x5 : Int32), 0 ≤ x5.toInt → x5.toInt ≤ 120 → 0 ≤ x2.toInt → x2.toInt ≤ 7 → -1 ≤ x4.toInt → x4.toInt < (u.1 1).toInt → 121 ≤ (n : Int) + x5.toInt → okk (fm_again_6 u n x1 x2 x3 x4 x5) (fun r => (-1 ≤ r.toInt ∧ r.toInt < (u.1 1).toInt)) := by
  intro n
  induction n with
  | zero =>
    intro x1 x2 x3 x4 x5 h0 h1 h2 h3 h4 h5 hf
    exfalso; omega
  | succ n ih =>
    intro x1 x2 x3 x4 x5 h0 h1 h2 h3 h4 h5 hf
    rw [fm_again_6_s]
    have z1_ := IM_s I
    refine okk_le (fun c2_ c2_I => ?_) (fun c2_ c2_I => ?_)
    · try have t4_ : (0 : Int32).toInt = (0 : Int) := (by decide : (0 : Int32).toInt = 0)
      refine okk_lt (fun c3_ c3_I => ?_) (fun c3_ c3_I => ?_)
      · try have t5_ : (-1 : Int32).toInt = (-1 : Int) := (by decide : (-1 : Int32).toInt = -1)
        exact okk_some ((by show -1 ≤ (-1 : Int32).toInt ∧ (-1 : Int32).toInt < (u.1 1).toInt; omega))
      · refine okk_ck (vp_I (by omega) (by omega)) ?_
        refine okk_ck (vp_I (by omega) (by omega)) ?_
        refine okk_lt (fun c6_ c6_I => ?_) (fun c6_ c6_I => ?_)
        · try have t7_ : (-1 : Int32).toInt = (-1 : Int) := (by decide : (-1 : Int32).toInt = -1)
          exact okk_some ((by show -1 ≤ (-1 : Int32).toInt ∧ (-1 : Int32).toInt < (u.1 1).toInt; omega))
        · exact okk_some ((by show -1 ≤ x4.toInt ∧ x4.toInt < (u.1 1).toInt; omega))
    · refine okk_ck (vp_I (by omega) (by omega)) ?_
      refine okk_ne (fun c8_ c8_I => ?_) (fun c8_ c8_I => ?_)
      · have t9_ : (x5 + (1 : Int32)).toInt = (x5.toInt + (1 : Int)) := (oi_add (a := x5) (b := (1 : Int32)) rfl (by decide : (1 : Int32).toInt = 1) (by omega) (by omega))
        refine okk_mono (ih x1 x2 x3 x4 (x5 + (1 : Int32)) (by omega) (by omega) (by omega) (by omega) (by omega) (by omega) (by omega)) (fun r10_ hr10_ => ?_)
        have p11_ := hr10_
        exact (by show -1 ≤ r10_.toInt ∧ r10_.toInt < (u.1 1).toInt; omega)
      · refine okk_bi (okk_fm_isOpen I (by omega) (by omega)) (fun v12_ hv12_ => ?_)
        have p13_ := hv12_
        try have t15_ : (0 : Int32).toInt = (0 : Int) := (by decide : (0 : Int32).toInt = 0)
        refine okk_eq (fun c14_ c14_I => ?_) (fun c14_ c14_I => ?_)
        · have t16_ : (x5 + (1 : Int32)).toInt = (x5.toInt + (1 : Int)) := (oi_add (a := x5) (b := (1 : Int32)) rfl (by decide : (1 : Int32).toInt = 1) (by omega) (by omega))
          refine okk_mono (ih x1 x2 x3 x4 (x5 + (1 : Int32)) (by omega) (by omega) (by omega) (by omega) (by omega) (by omega) (by omega)) (fun r17_ hr17_ => ?_)
          have p18_ := hr17_
          exact (by show -1 ≤ r17_.toInt ∧ r17_.toInt < (u.1 1).toInt; omega)
        · refine okk_bi (okk_fm_isHoax I (by omega) (by omega)) (fun v19_ hv19_ => ?_)
          have p20_ := hv19_
          refine okk_ne (fun c21_ c21_I => ?_) (fun c21_ c21_I => ?_)
          · have t22_ : (x5 + (1 : Int32)).toInt = (x5.toInt + (1 : Int)) := (oi_add (a := x5) (b := (1 : Int32)) rfl (by decide : (1 : Int32).toInt = 1) (by omega) (by omega))
            refine okk_mono (ih x1 x2 x3 x4 (x5 + (1 : Int32)) (by omega) (by omega) (by omega) (by omega) (by omega) (by omega) (by omega)) (fun r23_ hr23_ => ?_)
            have p24_ := hr23_
            exact (by show -1 ≤ r23_.toInt ∧ r23_.toInt < (u.1 1).toInt; omega)
          · have t25_ : (x5 + (1 : Int32)).toInt = (x5.toInt + (1 : Int)) := (oi_add (a := x5) (b := (1 : Int32)) rfl (by decide : (1 : Int32).toInt = 1) (by omega) (by omega))
            refine okk_mono (ih x1 x2 x3 x5 (x5 + (1 : Int32)) (by omega) (by omega) (by omega) (by omega) (by omega) (by omega) (by omega)) (fun r26_ hr26_ => ?_)
            have p27_ := hr26_
            exact (by show -1 ≤ r26_.toInt ∧ r26_.toInt < (u.1 1).toInt; omega)
set_option maxHeartbeats 4000000 in
theorem okk_fm_again {g : Nat → Int32} {u : g_S} (I : IM g u) {p1 : Int32} {p2 : Int32} {p3 : Int32} (h0 : 0 ≤ p2.toInt) (h1 : p2.toInt ≤ 7) : okk (fm_again u p1 p2 p3) (fun r => (-1 ≤ r.toInt ∧ r.toInt < (u.1 1).toInt)) := by
  unfold fm_again
  have z1_ := IM_s I
  have t2_ : (-1 : Int32).toInt = (-1 : Int) := (by decide : (-1 : Int32).toInt = -1)
  have t3_ : (0 : Int32).toInt = (0 : Int) := (by decide : (0 : Int32).toInt = 0)
  refine okk_mono (okk_fm_again_6 I 200 p1 p2 p3 (-1 : Int32) (0 : Int32) (by omega) (by omega) (by omega) (by omega) (by omega) (by omega) (by omega)) (fun r4_ hr4_ => ?_)
  have p5_ := hr4_
  exact (by show -1 ≤ r4_.toInt ∧ r4_.toInt < (u.1 1).toInt; omega)
set_option maxHeartbeats 4000000 in
theorem okk_fm_isBetter {g : Nat → Int32} {u : g_S} (I : IM g u) {p1 : Int32} {p2 : Int32} {p3 : Int32} {p4 : Int32} {p5 : Int32} (h0 : 0 ≤ p1.toInt) (h1 : p1.toInt ≤ 119) (h2 : -1 ≤ p2.toInt) (h3 : p2.toInt ≤ 119) (h4 : 0 ≤ p3.toInt) (h5 : p3.toInt ≤ 7) : okk (fm_isBetter u p1 p2 p3 p4 p5) (fun r => True) := by
  unfold fm_isBetter
  have z1_ := IM_s I
  try have t3_ : (0 : Int32).toInt = (0 : Int) := (by decide : (0 : Int32).toInt = 0)
  refine okk_le (fun c2_ c2_I => ?_) (fun c2_ c2_I => ?_)
  · refine okk_lt (fun c4_ c4_I => ?_) (fun c4_ c4_I => ?_)
    · unfold fm_isBetter_61
      refine okk_ck (vp_I (by omega) (by omega)) ?_
      refine okk_bi (okk_fm_sum I (by omega) (by omega)) (fun v5_ hv5_ => ?_)
      have p6_ := hv5_
      refine okk_ck (vp_I (by omega) (by omega)) ?_
      refine okk_bi (okk_fm_sum I (by omega) (by omega)) (fun v7_ hv7_ => ?_)
      have p8_ := hv7_
      refine okk_ck (vp_I (by omega) (by omega)) ?_
      refine okk_bi (okk_fm_sum I (by omega) (by omega)) (fun v9_ hv9_ => ?_)
      have p10_ := hv9_
      refine okk_ck (vp_I (by omega) (by omega)) ?_
      refine okk_bi (okk_fm_sum I (by omega) (by omega)) (fun v11_ hv11_ => ?_)
      have p12_ := hv11_
      try have t14_ : (v5_ * v7_).toInt = (v5_.toInt * v7_.toInt) := (oi_mul (a := v5_) (b := v7_) rfl rfl (by omega) (by omega))
      try have t15_ : (v9_ * v11_).toInt = (v9_.toInt * v11_.toInt) := (oi_mul (a := v9_) (b := v11_) rfl rfl (by omega) (by omega))
      refine okk_le (fun c13_ c13_I => ?_) (fun c13_ c13_I => ?_)
      · exact okk_some (trivial)
      · exact okk_some (trivial)
    · refine okk_ck (vp_I (by omega) (by omega)) ?_
      refine okk_lt (fun c16_ c16_I => ?_) (fun c16_ c16_I => ?_)
      · unfold fm_isBetter_61
        refine okk_ck (vp_I (by omega) (by omega)) ?_
        refine okk_bi (okk_fm_sum I (by omega) (by omega)) (fun v17_ hv17_ => ?_)
        have p18_ := hv17_
        refine okk_ck (vp_I (by omega) (by omega)) ?_
        refine okk_bi (okk_fm_sum I (by omega) (by omega)) (fun v19_ hv19_ => ?_)
        have p20_ := hv19_
        refine okk_ck (vp_I (by omega) (by omega)) ?_
        refine okk_bi (okk_fm_sum I (by omega) (by omega)) (fun v21_ hv21_ => ?_)
        have p22_ := hv21_
        refine okk_ck (vp_I (by omega) (by omega)) ?_
        refine okk_bi (okk_fm_sum I (by omega) (by omega)) (fun v23_ hv23_ => ?_)
        have p24_ := hv23_
        try have t26_ : (v17_ * v19_).toInt = (v17_.toInt * v19_.toInt) := (oi_mul (a := v17_) (b := v19_) rfl rfl (by omega) (by omega))
        try have t27_ : (v21_ * v23_).toInt = (v21_.toInt * v23_.toInt) := (oi_mul (a := v21_) (b := v23_) rfl rfl (by omega) (by omega))
        refine okk_le (fun c25_ c25_I => ?_) (fun c25_ c25_I => ?_)
        · exact okk_some (trivial)
        · exact okk_some (trivial)
      · refine okk_ck (vp_I (by omega) (by omega)) ?_
        refine okk_lt (fun c28_ c28_I => ?_) (fun c28_ c28_I => ?_)
        · unfold fm_isBetter_61
          refine okk_ck (vp_I (by omega) (by omega)) ?_
          refine okk_bi (okk_fm_sum I (by omega) (by omega)) (fun v29_ hv29_ => ?_)
          have p30_ := hv29_
          refine okk_ck (vp_I (by omega) (by omega)) ?_
          refine okk_bi (okk_fm_sum I (by omega) (by omega)) (fun v31_ hv31_ => ?_)
          have p32_ := hv31_
          refine okk_ck (vp_I (by omega) (by omega)) ?_
          refine okk_bi (okk_fm_sum I (by omega) (by omega)) (fun v33_ hv33_ => ?_)
          have p34_ := hv33_
          refine okk_ck (vp_I (by omega) (by omega)) ?_
          refine okk_bi (okk_fm_sum I (by omega) (by omega)) (fun v35_ hv35_ => ?_)
          have p36_ := hv35_
          try have t38_ : (v29_ * v31_).toInt = (v29_.toInt * v31_.toInt) := (oi_mul (a := v29_) (b := v31_) rfl rfl (by omega) (by omega))
          try have t39_ : (v33_ * v35_).toInt = (v33_.toInt * v35_.toInt) := (oi_mul (a := v33_) (b := v35_) rfl rfl (by omega) (by omega))
          refine okk_le (fun c37_ c37_I => ?_) (fun c37_ c37_I => ?_)
          · exact okk_some (trivial)
          · exact okk_some (trivial)
        · refine okk_ck (vp_I (by omega) (by omega)) ?_
          refine okk_bi (okk_fm_squareOf ) (fun v40_ hv40_ => ?_)
          have p41_ := hv40_
          refine okk_ck (vp_I (by omega) (by omega)) ?_
          refine okk_bi (okk_fm_squareOf ) (fun v42_ hv42_ => ?_)
          have p43_ := hv42_
          refine okk_le (fun c44_ c44_I => ?_) (fun c44_ c44_I => ?_)
          · exact okk_some (trivial)
          · exact okk_some (trivial)
  · exact okk_some (trivial)
end
section
set_option maxHeartbeats 4000000 in
theorem okk_fm_agreeing_6 {g : Nat → Int32} {u : g_S} (I : IM g u) : ∀ (n : Nat) (x1 : Int32) (x2 : Int32) (x3 : Int32) (x4 : Int32) (x5 : Int32) (x6 : Int32) (x7 : Int32), 0 ≤ x7.toInt → x7.toInt ≤ 120 → 0 ≤ x2.toInt → x2.toInt ≤ 7 → -1 ≤ x6.toInt → x6.toInt < (u.1 1).toInt → 121 ≤ (n : Int) + x7.toInt → okk (fm_agreeing_6 u n x1 x2 x3 x4 x5 x6 x7) (fun r => (-1 ≤ r.toInt ∧ r.toInt < (u.1 1).toInt)) := by
  intro n
  induction n with
  | zero =>
    intro x1 x2 x3 x4 x5 x6 x7 h0 h1 h2 h3 h4 h5 hf
    exfalso; omega
  | succ n ih =>
    intro x1 x2 x3 x4 x5 x6 x7 h0 h1 h2 h3 h4 h5 hf
    rw [fm_agreeing_6_s]
    have z1_ := IM_s I
    refine okk_le (fun c2_ c2_I => ?_) (fun c2_ c2_I => ?_)
    · exact okk_some ((by show -1 ≤ x6.toInt ∧ x6.toInt < (u.1 1).toInt; omega))
    · refine okk_ck (vp_I (by omega) (by omega)) ?_
      have r4_ := IM_r8 I x7.toNatClampNeg
      refine okk_ne (fun c3_ c3_I => ?_) (fun c3_ c3_I => ?_)
      · refine okk_t (by decide) ?_
        have t5_ : (x7 + (1 : Int32)).toInt = (x7.toInt + (1 : Int)) := (oi_add (a := x7) (b := (1 : Int32)) rfl (by decide : (1 : Int32).toInt = 1) (by omega) (by omega))
        refine okk_mono (ih x1 x2 x3 x4 x5 x6 (x7 + (1 : Int32)) (by omega) (by omega) (by omega) (by omega) (by omega) (by omega) (by omega)) (fun r6_ hr6_ => ?_)
        have p7_ := hr6_
        exact (by show -1 ≤ r6_.toInt ∧ r6_.toInt < (u.1 1).toInt; omega)
      · refine okk_bi (okk_fm_isOpen I (by omega) (by omega)) (fun v8_ hv8_ => ?_)
        have p9_ := hv8_
        try have t11_ : (0 : Int32).toInt = (0 : Int) := (by decide : (0 : Int32).toInt = 0)
        refine okk_eq (fun c10_ c10_I => ?_) (fun c10_ c10_I => ?_)
        · refine okk_t (by decide) ?_
          have t12_ : (x7 + (1 : Int32)).toInt = (x7.toInt + (1 : Int)) := (oi_add (a := x7) (b := (1 : Int32)) rfl (by decide : (1 : Int32).toInt = 1) (by omega) (by omega))
          refine okk_mono (ih x1 x2 x3 x4 x5 x6 (x7 + (1 : Int32)) (by omega) (by omega) (by omega) (by omega) (by omega) (by omega) (by omega)) (fun r13_ hr13_ => ?_)
          have p14_ := hr13_
          exact (by show -1 ≤ r13_.toInt ∧ r13_.toInt < (u.1 1).toInt; omega)
        · refine okk_bi (okk_fm_isHoax I (by omega) (by omega)) (fun v15_ hv15_ => ?_)
          have p16_ := hv15_
          refine okk_ne (fun c17_ c17_I => ?_) (fun c17_ c17_I => ?_)
          · refine okk_t (by decide) ?_
            have t18_ : (x7 + (1 : Int32)).toInt = (x7.toInt + (1 : Int)) := (oi_add (a := x7) (b := (1 : Int32)) rfl (by decide : (1 : Int32).toInt = 1) (by omega) (by omega))
            refine okk_mono (ih x1 x2 x3 x4 x5 x6 (x7 + (1 : Int32)) (by omega) (by omega) (by omega) (by omega) (by omega) (by omega) (by omega)) (fun r19_ hr19_ => ?_)
            have p20_ := hr19_
            exact (by show -1 ≤ r19_.toInt ∧ r19_.toInt < (u.1 1).toInt; omega)
          · refine okk_bi (okk_fm_meets I (by omega) (by omega) (by omega) (by omega)) (fun v21_ hv21_ => ?_)
            have p22_ := hv21_
            refine okk_ne (fun c23_ c23_I => ?_) (fun c23_ c23_I => ?_)
            · refine okk_t (by decide) ?_
              have t24_ : (x7 + (1 : Int32)).toInt = (x7.toInt + (1 : Int)) := (oi_add (a := x7) (b := (1 : Int32)) rfl (by decide : (1 : Int32).toInt = 1) (by omega) (by omega))
              refine okk_mono (ih x1 x2 x3 x4 x5 x6 (x7 + (1 : Int32)) (by omega) (by omega) (by omega) (by omega) (by omega) (by omega) (by omega)) (fun r25_ hr25_ => ?_)
              have p26_ := hr25_
              exact (by show -1 ≤ r25_.toInt ∧ r25_.toInt < (u.1 1).toInt; omega)
            · refine okk_f (by decide) ?_
              try have t28_ : (2 : Int32).toInt = (2 : Int) := (by decide : (2 : Int32).toInt = 2)
              refine okk_ne (fun c27_ c27_I => ?_) (fun c27_ c27_I => ?_)
              · refine okk_bi (okk_fm_isBetter I (by omega) (by omega) (by omega) (by omega) (by omega) (by omega)) (fun v29_ hv29_ => ?_)
                have p30_ := hv29_
                refine okk_eq (fun c31_ c31_I => ?_) (fun c31_ c31_I => ?_)
                · have t32_ : (x7 + (1 : Int32)).toInt = (x7.toInt + (1 : Int)) := (oi_add (a := x7) (b := (1 : Int32)) rfl (by decide : (1 : Int32).toInt = 1) (by omega) (by omega))
                  refine okk_mono (ih x1 x2 x3 x4 x5 x6 (x7 + (1 : Int32)) (by omega) (by omega) (by omega) (by omega) (by omega) (by omega) (by omega)) (fun r33_ hr33_ => ?_)
                  have p34_ := hr33_
                  exact (by show -1 ≤ r33_.toInt ∧ r33_.toInt < (u.1 1).toInt; omega)
                · have t35_ : (x7 + (1 : Int32)).toInt = (x7.toInt + (1 : Int)) := (oi_add (a := x7) (b := (1 : Int32)) rfl (by decide : (1 : Int32).toInt = 1) (by omega) (by omega))
                  refine okk_mono (ih x1 x2 x3 x4 x5 x7 (x7 + (1 : Int32)) (by omega) (by omega) (by omega) (by omega) (by omega) (by omega) (by omega)) (fun r36_ hr36_ => ?_)
                  have p37_ := hr36_
                  exact (by show -1 ≤ r36_.toInt ∧ r36_.toInt < (u.1 1).toInt; omega)
              · refine okk_bi (okk_fm_isBetter I (by omega) (by omega) (by omega) (by omega) (by omega) (by omega)) (fun v38_ hv38_ => ?_)
                have p39_ := hv38_
                refine okk_eq (fun c40_ c40_I => ?_) (fun c40_ c40_I => ?_)
                · have t41_ : (x7 + (1 : Int32)).toInt = (x7.toInt + (1 : Int)) := (oi_add (a := x7) (b := (1 : Int32)) rfl (by decide : (1 : Int32).toInt = 1) (by omega) (by omega))
                  refine okk_mono (ih x1 x2 x3 x4 x5 x6 (x7 + (1 : Int32)) (by omega) (by omega) (by omega) (by omega) (by omega) (by omega) (by omega)) (fun r42_ hr42_ => ?_)
                  have p43_ := hr42_
                  exact (by show -1 ≤ r42_.toInt ∧ r42_.toInt < (u.1 1).toInt; omega)
                · have t44_ : (x7 + (1 : Int32)).toInt = (x7.toInt + (1 : Int)) := (oi_add (a := x7) (b := (1 : Int32)) rfl (by decide : (1 : Int32).toInt = 1) (by omega) (by omega))
                  refine okk_mono (ih x1 x2 x3 x4 x5 x7 (x7 + (1 : Int32)) (by omega) (by omega) (by omega) (by omega) (by omega) (by omega) (by omega)) (fun r45_ hr45_ => ?_)
                  have p46_ := hr45_
                  exact (by show -1 ≤ r45_.toInt ∧ r45_.toInt < (u.1 1).toInt; omega)
set_option maxHeartbeats 4000000 in
theorem okk_fm_agreeing {g : Nat → Int32} {u : g_S} (I : IM g u) {p1 : Int32} {p2 : Int32} {p3 : Int32} {p4 : Int32} {p5 : Int32} (h0 : 0 ≤ p2.toInt) (h1 : p2.toInt ≤ 7) : okk (fm_agreeing u p1 p2 p3 p4 p5) (fun r => (-1 ≤ r.toInt ∧ r.toInt < (u.1 1).toInt)) := by
  unfold fm_agreeing
  have z1_ := IM_s I
  have t2_ : (-1 : Int32).toInt = (-1 : Int) := (by decide : (-1 : Int32).toInt = -1)
  have t3_ : (0 : Int32).toInt = (0 : Int) := (by decide : (0 : Int32).toInt = 0)
  refine okk_mono (okk_fm_agreeing_6 I 200 p1 p2 p3 p4 p5 (-1 : Int32) (0 : Int32) (by omega) (by omega) (by omega) (by omega) (by omega) (by omega) (by omega)) (fun r4_ hr4_ => ?_)
  have p5_ := hr4_
  exact (by show -1 ≤ r4_.toInt ∧ r4_.toInt < (u.1 1).toInt; omega)
set_option maxHeartbeats 4000000 in
theorem okk_fm_isRange {g : Nat → Int32} {u : g_S} (I : IM g u) {p1 : Int32} {p2 : Int32} {p3 : Int32} : okk (fm_isRange u p1 p2 p3) (fun r => True) := by
  unfold fm_isRange
  have z1_ := IM_s I
  try have t2_ : (0 : Int32).toInt = (0 : Int) := (by decide : (0 : Int32).toInt = 0)
  try have t3_ : (999 : Int32).toInt = (999 : Int) := (by decide : (999 : Int32).toInt = 999)
  refine okk_in (fun b4_ => ?_) (fun b4_ => ?_)
  · refine okk_f (by decide) ?_
    try have t5_ : (-1 : Int32).toInt = (-1 : Int) := (by decide : (-1 : Int32).toInt = -1)
    try have t6_ : (99999999 : Int32).toInt = (99999999 : Int) := (by decide : (99999999 : Int32).toInt = 99999999)
    refine okk_in (fun b7_ => ?_) (fun b7_ => ?_)
    · refine okk_f (by decide) ?_
      refine okk_ne (fun c8_ c8_I => ?_) (fun c8_ c8_I => ?_)
      · have t9_ : ((u.1 1) - (1 : Int32)).toInt = ((u.1 1).toInt - (1 : Int)) := (oi_sub (a := (u.1 1)) (b := (1 : Int32)) rfl (by decide : (1 : Int32).toInt = 1) (by omega) (by omega))
        refine okk_ck (vp_I (by omega) (by omega)) ?_
        refine okk_lt (fun c10_ c10_I => ?_) (fun c10_ c10_I => ?_)
        · exact okk_some (trivial)
        · exact okk_some (trivial)
      · refine okk_lt (fun c11_ c11_I => ?_) (fun c11_ c11_I => ?_)
        · exact okk_some (trivial)
        · exact okk_some (trivial)
    · refine okk_t (by decide) ?_
      exact okk_some (trivial)
  · refine okk_t (by decide) ?_
    exact okk_some (trivial)
set_option maxHeartbeats 4000000 in
theorem okk_fm_isKnown {p0 : Int32} {p1 : Int32} : okk (fm_isKnown p0 p1) (fun r => (r.toInt = 0 ∨ (r.toInt = 1 ∧ 0 ≤ p0.toInt ∧ p0.toInt ≤ 7))) := by
  unfold fm_isKnown
  refine okk_isKind (fun b1_ => ?_) (fun b1_ => ?_)
  · refine okk_f (by decide) ?_
    try have t2_ : (-1 : Int32).toInt = (-1 : Int) := (by decide : (-1 : Int32).toInt = -1)
    try have t3_ : (7 : Int32).toInt = (7 : Int) := (by decide : (7 : Int32).toInt = 7)
    refine okk_in (fun b4_ => ?_) (fun b4_ => ?_)
    · refine okk_f (by decide) ?_
      try have t5_ : (1 : Int32).toInt = (1 : Int) := (by decide : (1 : Int32).toInt = 1)
      exact okk_some ((by show (1 : Int32).toInt = 0 ∨ ((1 : Int32).toInt = 1 ∧ 0 ≤ p0.toInt ∧ p0.toInt ≤ 7); omega))
    · refine okk_t (by decide) ?_
      try have t6_ : (0 : Int32).toInt = (0 : Int) := (by decide : (0 : Int32).toInt = 0)
      exact okk_some ((by show (0 : Int32).toInt = 0 ∨ ((0 : Int32).toInt = 1 ∧ 0 ≤ p0.toInt ∧ p0.toInt ≤ 7); omega))
  · refine okk_t (by decide) ?_
    try have t7_ : (0 : Int32).toInt = (0 : Int) := (by decide : (0 : Int32).toInt = 0)
    exact okk_some ((by show (0 : Int32).toInt = 0 ∨ ((0 : Int32).toInt = 1 ∧ 0 ≤ p0.toInt ∧ p0.toInt ≤ 7); omega))
set_option maxHeartbeats 4000000 in
theorem okk_fm_size_4 {g : Nat → Int32} {u : g_S} (I : IM g u) : ∀ (n : Nat) (x1 : Int32) (x2 : Int32) (x3 : Int32), 0 ≤ x3.toInt → x3.toInt ≤ 120 → 121 ≤ (n : Int) + x3.toInt → okk (fm_size_4 u n x1 x2 x3) (fun r => True) := by
  intro n
  induction n with
  | zero =>
    intro x1 x2 x3 h0 h1 hf
    exfalso; omega
  | succ n ih =>
    intro x1 x2 x3 h0 h1 hf
    rw [fm_size_4_s]
    have z1_ := IM_s I
    refine okk_le (fun c2_ c2_I => ?_) (fun c2_ c2_I => ?_)
    · exact okk_some (trivial)
    · refine okk_ck (vp_I (by omega) (by omega)) ?_
      have r4_ := IM_r12 I x3.toNatClampNeg
      refine okk_ne (fun c3_ c3_I => ?_) (fun c3_ c3_I => ?_)
      · try have t6_ : (x2 + (0 : Int32)).toInt = (x2.toInt + (0 : Int)) := (oi_add (a := x2) (b := (0 : Int32)) rfl (by decide : (0 : Int32).toInt = 0) (by omega) (by omega))
        refine okk_gl (fun w15_ ew15_ => ?_)
        have t7_ : w15_.toInt = (x2 + (0 : Int32)).toInt := by rw [ew15_]
        have t8_ : (x3 + (1 : Int32)).toInt = (x3.toInt + (1 : Int)) := (oi_add (a := x3) (b := (1 : Int32)) rfl (by decide : (1 : Int32).toInt = 1) (by omega) (by omega))
        exact ih x1 w15_ (x3 + (1 : Int32)) (by omega) (by omega) (by omega)
      · try have t10_ : (x2 + (1 : Int32)).toInt = (x2.toInt + (1 : Int)) := (oi_add (a := x2) (b := (1 : Int32)) rfl (by decide : (1 : Int32).toInt = 1) (by omega) (by omega))
        refine okk_gl (fun w29_ ew29_ => ?_)
        have t11_ : w29_.toInt = (x2 + (1 : Int32)).toInt := by rw [ew29_]
        have t12_ : (x3 + (1 : Int32)).toInt = (x3.toInt + (1 : Int)) := (oi_add (a := x3) (b := (1 : Int32)) rfl (by decide : (1 : Int32).toInt = 1) (by omega) (by omega))
        exact ih x1 w29_ (x3 + (1 : Int32)) (by omega) (by omega) (by omega)
set_option maxHeartbeats 4000000 in
theorem okk_fm_size {g : Nat → Int32} {u : g_S} (I : IM g u) {p1 : Int32} : okk (fm_size u p1) (fun r => True) := by
  unfold fm_size
  have z1_ := IM_s I
  have t2_ : (0 : Int32).toInt = (0 : Int) := (by decide : (0 : Int32).toInt = 0)
  exact okk_fm_size_4 I 200 p1 (0 : Int32) (0 : Int32) (by omega) (by omega) (by omega)
set_option maxHeartbeats 4000000 in
theorem okk_fm_weightOf_4 {g : Nat → Int32} {u : g_S} (I : IM g u) : ∀ (n : Nat) (x1 : Int32) (x2 : Int32) (x3 : Int32), 0 ≤ x3.toInt → x3.toInt ≤ 120 → 121 ≤ (n : Int) + x3.toInt → okk (fm_weightOf_4 u n x1 x2 x3) (fun r => True) := by
  intro n
  induction n with
  | zero =>
    intro x1 x2 x3 h0 h1 hf
    exfalso; omega
  | succ n ih =>
    intro x1 x2 x3 h0 h1 hf
    rw [fm_weightOf_4_s]
    have z1_ := IM_s I
    refine okk_le (fun c2_ c2_I => ?_) (fun c2_ c2_I => ?_)
    · exact okk_some (trivial)
    · refine okk_ck (vp_I (by omega) (by omega)) ?_
      have r4_ := IM_r12 I x3.toNatClampNeg
      refine okk_ne (fun c3_ c3_I => ?_) (fun c3_ c3_I => ?_)
      · have t5_ : (x3 + (1 : Int32)).toInt = (x3.toInt + (1 : Int)) := (oi_add (a := x3) (b := (1 : Int32)) rfl (by decide : (1 : Int32).toInt = 1) (by omega) (by omega))
        exact ih x1 x2 (x3 + (1 : Int32)) (by omega) (by omega) (by omega)
      · refine okk_bi (okk_fm_isHoax I (by omega) (by omega)) (fun v6_ hv6_ => ?_)
        have p7_ := hv6_
        try have t9_ : (0 : Int32).toInt = (0 : Int) := (by decide : (0 : Int32).toInt = 0)
        refine okk_ne (fun c8_ c8_I => ?_) (fun c8_ c8_I => ?_)
        · have t10_ : (x3 + (1 : Int32)).toInt = (x3.toInt + (1 : Int)) := (oi_add (a := x3) (b := (1 : Int32)) rfl (by decide : (1 : Int32).toInt = 1) (by omega) (by omega))
          exact ih x1 x2 (x3 + (1 : Int32)) (by omega) (by omega) (by omega)
        · refine okk_ck (vp_I (by omega) (by omega)) ?_
          refine okk_eq (fun c11_ c11_I => ?_) (fun c11_ c11_I => ?_)
          · refine okk_ck (vp_I (by omega) (by omega)) ?_
            refine okk_lt (fun c12_ c12_I => ?_) (fun c12_ c12_I => ?_)
            · try have t14_ : (x2 + (((4 : Int32) - (0 : Int32)) + (0 : Int32))).toInt = (x2.toInt + (((4 : Int) - (0 : Int)) + (0 : Int))) := (oi_add (a := x2) (b := (((4 : Int32) - (0 : Int32)) + (0 : Int32))) rfl (oi_add (a := ((4 : Int32) - (0 : Int32))) (b := (0 : Int32)) (oi_sub (a := (4 : Int32)) (b := (0 : Int32)) (by decide : (4 : Int32).toInt = 4) (by decide : (0 : Int32).toInt = 0) (by omega) (by omega)) (by decide : (0 : Int32).toInt = 0) (by omega) (by omega)) (by omega) (by omega))
              refine okk_gl (fun w213_ ew213_ => ?_)
              have t15_ : w213_.toInt = (x2 + (((4 : Int32) - (0 : Int32)) + (0 : Int32))).toInt := by rw [ew213_]
              have t16_ : (x3 + (1 : Int32)).toInt = (x3.toInt + (1 : Int)) := (oi_add (a := x3) (b := (1 : Int32)) rfl (by decide : (1 : Int32).toInt = 1) (by omega) (by omega))
              exact ih x1 w213_ (x3 + (1 : Int32)) (by omega) (by omega) (by omega)
            · try have t18_ : (x2 + (((4 : Int32) - (0 : Int32)) + (1 : Int32))).toInt = (x2.toInt + (((4 : Int) - (0 : Int)) + (1 : Int))) := (oi_add (a := x2) (b := (((4 : Int32) - (0 : Int32)) + (1 : Int32))) rfl (oi_add (a := ((4 : Int32) - (0 : Int32))) (b := (1 : Int32)) (oi_sub (a := (4 : Int32)) (b := (0 : Int32)) (by decide : (4 : Int32).toInt = 4) (by decide : (0 : Int32).toInt = 0) (by omega) (by omega)) (by decide : (1 : Int32).toInt = 1) (by omega) (by omega)) (by omega) (by omega))
              refine okk_gl (fun w317_ ew317_ => ?_)
              have t19_ : w317_.toInt = (x2 + (((4 : Int32) - (0 : Int32)) + (1 : Int32))).toInt := by rw [ew317_]
              have t20_ : (x3 + (1 : Int32)).toInt = (x3.toInt + (1 : Int)) := (oi_add (a := x3) (b := (1 : Int32)) rfl (by decide : (1 : Int32).toInt = 1) (by omega) (by omega))
              exact ih x1 w317_ (x3 + (1 : Int32)) (by omega) (by omega) (by omega)
          · refine okk_ck (vp_I (by omega) (by omega)) ?_
            refine okk_lt (fun c21_ c21_I => ?_) (fun c21_ c21_I => ?_)
            · try have t23_ : (x2 + (((4 : Int32) - (2 : Int32)) + (0 : Int32))).toInt = (x2.toInt + (((4 : Int) - (2 : Int)) + (0 : Int))) := (oi_add (a := x2) (b := (((4 : Int32) - (2 : Int32)) + (0 : Int32))) rfl (oi_add (a := ((4 : Int32) - (2 : Int32))) (b := (0 : Int32)) (oi_sub (a := (4 : Int32)) (b := (2 : Int32)) (by decide : (4 : Int32).toInt = 4) (by decide : (2 : Int32).toInt = 2) (by omega) (by omega)) (by decide : (0 : Int32).toInt = 0) (by omega) (by omega)) (by omega) (by omega))
              refine okk_gl (fun w422_ ew422_ => ?_)
              have t24_ : w422_.toInt = (x2 + (((4 : Int32) - (2 : Int32)) + (0 : Int32))).toInt := by rw [ew422_]
              have t25_ : (x3 + (1 : Int32)).toInt = (x3.toInt + (1 : Int)) := (oi_add (a := x3) (b := (1 : Int32)) rfl (by decide : (1 : Int32).toInt = 1) (by omega) (by omega))
              exact ih x1 w422_ (x3 + (1 : Int32)) (by omega) (by omega) (by omega)
            · try have t27_ : (x2 + (((4 : Int32) - (2 : Int32)) + (1 : Int32))).toInt = (x2.toInt + (((4 : Int) - (2 : Int)) + (1 : Int))) := (oi_add (a := x2) (b := (((4 : Int32) - (2 : Int32)) + (1 : Int32))) rfl (oi_add (a := ((4 : Int32) - (2 : Int32))) (b := (1 : Int32)) (oi_sub (a := (4 : Int32)) (b := (2 : Int32)) (by decide : (4 : Int32).toInt = 4) (by decide : (2 : Int32).toInt = 2) (by omega) (by omega)) (by decide : (1 : Int32).toInt = 1) (by omega) (by omega)) (by omega) (by omega))
              refine okk_gl (fun w526_ ew526_ => ?_)
              have t28_ : w526_.toInt = (x2 + (((4 : Int32) - (2 : Int32)) + (1 : Int32))).toInt := by rw [ew526_]
              have t29_ : (x3 + (1 : Int32)).toInt = (x3.toInt + (1 : Int)) := (oi_add (a := x3) (b := (1 : Int32)) rfl (by decide : (1 : Int32).toInt = 1) (by omega) (by omega))
              exact ih x1 w526_ (x3 + (1 : Int32)) (by omega) (by omega) (by omega)
set_option maxHeartbeats 4000000 in
theorem okk_fm_weightOf {g : Nat → Int32} {u : g_S} (I : IM g u) {p1 : Int32} : okk (fm_weightOf u p1) (fun r => True) := by
  unfold fm_weightOf
  have z1_ := IM_s I
  have t2_ : (0 : Int32).toInt = (0 : Int) := (by decide : (0 : Int32).toInt = 0)
  exact okk_fm_weightOf_4 I 200 p1 (0 : Int32) (0 : Int32) (by omega) (by omega) (by omega)
set_option maxHeartbeats 4000000 in
theorem okk_fm_placeOf_2 {g : Nat → Int32} {u : g_S} (I : IM g u) : ∀ (n : Nat) (x1 : Int32) (x2 : Int32), 0 ≤ x2.toInt → x2.toInt ≤ 120 → 121 ≤ (n : Int) + x2.toInt → okk (fm_placeOf_2 u n x1 x2) (fun r => True) := by
  intro n
  induction n with
  | zero =>
    intro x1 x2 h0 h1 hf
    exfalso; omega
  | succ n ih =>
    intro x1 x2 h0 h1 hf
    rw [fm_placeOf_2_s]
    have z1_ := IM_s I
    refine okk_le (fun c2_ c2_I => ?_) (fun c2_ c2_I => ?_)
    · exact okk_some (trivial)
    · refine okk_ck (vp_I (by omega) (by omega)) ?_
      have r4_ := IM_r12 I x2.toNatClampNeg
      refine okk_ne (fun c3_ c3_I => ?_) (fun c3_ c3_I => ?_)
      · have t5_ : (x2 + (1 : Int32)).toInt = (x2.toInt + (1 : Int)) := (oi_add (a := x2) (b := (1 : Int32)) rfl (by decide : (1 : Int32).toInt = 1) (by omega) (by omega))
        exact ih x1 (x2 + (1 : Int32)) (by omega) (by omega) (by omega)
      · refine okk_bi (okk_fm_isHoax I (by omega) (by omega)) (fun v6_ hv6_ => ?_)
        have p7_ := hv6_
        try have t9_ : (0 : Int32).toInt = (0 : Int) := (by decide : (0 : Int32).toInt = 0)
        refine okk_ne (fun c8_ c8_I => ?_) (fun c8_ c8_I => ?_)
        · have t10_ : (x2 + (1 : Int32)).toInt = (x2.toInt + (1 : Int)) := (oi_add (a := x2) (b := (1 : Int32)) rfl (by decide : (1 : Int32).toInt = 1) (by omega) (by omega))
          exact ih x1 (x2 + (1 : Int32)) (by omega) (by omega) (by omega)
        · refine okk_ck (vp_I (by omega) (by omega)) ?_
          refine okk_lt (fun c11_ c11_I => ?_) (fun c11_ c11_I => ?_)
          · have t12_ : (x2 + (1 : Int32)).toInt = (x2.toInt + (1 : Int)) := (oi_add (a := x2) (b := (1 : Int32)) rfl (by decide : (1 : Int32).toInt = 1) (by omega) (by omega))
            exact ih x1 (x2 + (1 : Int32)) (by omega) (by omega) (by omega)
          · refine okk_ck (vp_I (by omega) (by omega)) ?_
            exact okk_some (trivial)
set_option maxHeartbeats 4000000 in
theorem okk_fm_placeOf {g : Nat → Int32} {u : g_S} (I : IM g u) {p1 : Int32} : okk (fm_placeOf u p1) (fun r => True) := by
  unfold fm_placeOf
  have z1_ := IM_s I
  have t2_ : (0 : Int32).toInt = (0 : Int) := (by decide : (0 : Int32).toInt = 0)
  exact okk_fm_placeOf_2 I 200 p1 (0 : Int32) (by omega) (by omega) (by omega)
set_option maxHeartbeats 4000000 in
theorem okk_fm_latestOf_4 {g : Nat → Int32} {u : g_S} (I : IM g u) : ∀ (n : Nat) (x1 : Int32) (x2 : Int32) (x3 : Int32), 0 ≤ x3.toInt → x3.toInt ≤ 120 → 121 ≤ (n : Int) + x3.toInt → okk (fm_latestOf_4 u n x1 x2 x3) (fun r => True) := by
  intro n
  induction n with
  | zero =>
    intro x1 x2 x3 h0 h1 hf
    exfalso; omega
  | succ n ih =>
    intro x1 x2 x3 h0 h1 hf
    rw [fm_latestOf_4_s]
    have z1_ := IM_s I
    refine okk_le (fun c2_ c2_I => ?_) (fun c2_ c2_I => ?_)
    · exact okk_some (trivial)
    · refine okk_ck (vp_I (by omega) (by omega)) ?_
      have r4_ := IM_r12 I x3.toNatClampNeg
      refine okk_ne (fun c3_ c3_I => ?_) (fun c3_ c3_I => ?_)
      · have t5_ : (x3 + (1 : Int32)).toInt = (x3.toInt + (1 : Int)) := (oi_add (a := x3) (b := (1 : Int32)) rfl (by decide : (1 : Int32).toInt = 1) (by omega) (by omega))
        exact ih x1 x2 (x3 + (1 : Int32)) (by omega) (by omega) (by omega)
      · refine okk_ck (vp_I (by omega) (by omega)) ?_
        refine okk_gl (fun w16_ ew16_ => ?_)
        have t7_ : w16_.toInt = (u.2 11 x3.toNatClampNeg).toInt := by rw [ew16_]
        have t8_ : (x3 + (1 : Int32)).toInt = (x3.toInt + (1 : Int)) := (oi_add (a := x3) (b := (1 : Int32)) rfl (by decide : (1 : Int32).toInt = 1) (by omega) (by omega))
        exact ih x1 w16_ (x3 + (1 : Int32)) (by omega) (by omega) (by omega)
set_option maxHeartbeats 4000000 in
theorem okk_fm_latestOf {g : Nat → Int32} {u : g_S} (I : IM g u) {p1 : Int32} : okk (fm_latestOf u p1) (fun r => True) := by
  unfold fm_latestOf
  have z1_ := IM_s I
  have t2_ : (0 : Int32).toInt = (0 : Int) := (by decide : (0 : Int32).toInt = 0)
  exact okk_fm_latestOf_4 I 200 p1 (-1 : Int32) (0 : Int32) (by omega) (by omega) (by omega)
set_option maxHeartbeats 4000000 in
theorem okk_fm_rule {g : Nat → Int32} {u : g_S} (I : IM g u) {p1 : Int32} {p2 : Int32} {p3 : Int32} {p4 : Int32} {p5 : Int32} : okk (fm_rule u p1 p2 p3 p4 p5) (fun r => IM g r ∧ (((r.1 0).toInt = 1 ∧ ¬ (0 ≤ p1.toInt ∧ p1.toInt ≤ 7)) ∨ ((r.1 0).toInt = 2 ∧ (0 ≤ p1.toInt ∧ p1.toInt ≤ 7) ∧ ¬ (0 ≤ p2.toInt ∧ p2.toInt ≤ 20000 ∧ 0 ≤ p3.toInt ∧ p3.toInt ≤ 100000 ∧ 0 ≤ p4.toInt ∧ p4.toInt ≤ 100 ∧ 1 ≤ p5.toInt ∧ p5.toInt ≤ 100)) ∨ ((r.1 0).toInt = 0 ∧ (0 ≤ p1.toInt ∧ p1.toInt ≤ 7) ∧ (0 ≤ p2.toInt ∧ p2.toInt ≤ 20000 ∧ 0 ≤ p3.toInt ∧ p3.toInt ≤ 100000 ∧ 0 ≤ p4.toInt ∧ p4.toInt ≤ 100 ∧ 1 ≤ p5.toInt ∧ p5.toInt ≤ 100)))) := by
  unfold fm_rule
  have z1_ := IM_s I
  try have t2_ : (0 : Int32).toInt = (0 : Int) := (by decide : (0 : Int32).toInt = 0)
  try have t3_ : (20000 : Int32).toInt = (20000 : Int) := (by decide : (20000 : Int32).toInt = 20000)
  refine okk_in (fun b4_ => ?_) (fun b4_ => ?_)
  · refine okk_f (by decide) ?_
    try have t5_ : (100000 : Int32).toInt = (100000 : Int) := (by decide : (100000 : Int32).toInt = 100000)
    refine okk_in (fun b6_ => ?_) (fun b6_ => ?_)
    · refine okk_f (by decide) ?_
      try have t7_ : (100 : Int32).toInt = (100 : Int) := (by decide : (100 : Int32).toInt = 100)
      refine okk_in (fun b8_ => ?_) (fun b8_ => ?_)
      · refine okk_f (by decide) ?_
        try have t9_ : (1 : Int32).toInt = (1 : Int) := (by decide : (1 : Int32).toInt = 1)
        refine okk_in (fun b10_ => ?_) (fun b10_ => ?_)
        · refine okk_t (by decide) ?_
          unfold fm_rule_48
          refine okk_isKind (fun b11_ => ?_) (fun b11_ => ?_)
          · refine okk_t (by decide) ?_
            unfold fm_rule_63
            obtain ⟨u12_, eu12_⟩ : ∃ y, y = g_sI u 0 (0 : Int32) := ⟨_, rfl⟩
            refine okk_bs (v := ((0 : Int32), u12_)) (by rw [eu12_]; exact fm_thr_0 _) ?_
            dsimp only
            have Iu12_ : IM g u12_ := by rw [eu12_]; exact IM_ix I _ (by decide)
            have h013_ : (u12_.1 0).toInt = 0 := by rw [eu12_, rdI, if_pos rfl]; decide
            have z14_ : (u12_.1 1).toInt = (u.1 1).toInt := by rw [eu12_]; rfl
            have z15_ : (u12_.1 2).toInt = (u.1 2).toInt := by rw [eu12_]; rfl
            refine okk_t (by decide) ?_
            refine okk_ck (vp_I (by omega) (by omega)) ?_
            refine okk_gl (fun u416_ eu416_ => ?_)
            have Iu416_ : IM g u416_ := by rw [eu416_]; exact IM_wx Iu12_ 0 _ _ rfl rfl (by decide)
            have z17_ : (u416_.1 0).toInt = (u12_.1 0).toInt := by rw [eu416_]; rfl
            have z18_ : (u416_.1 1).toInt = (u12_.1 1).toInt := by rw [eu416_]; rfl
            have z19_ : (u416_.1 2).toInt = (u12_.1 2).toInt := by rw [eu416_]; rfl
            refine okk_ck (vp_I (by omega) (by omega)) ?_
            refine okk_gl (fun u520_ eu520_ => ?_)
            have Iu520_ : IM g u520_ := by rw [eu520_]; exact IM_wx Iu416_ 1 _ _ rfl rfl (by decide)
            have z21_ : (u520_.1 0).toInt = (u416_.1 0).toInt := by rw [eu520_]; rfl
            have z22_ : (u520_.1 1).toInt = (u416_.1 1).toInt := by rw [eu520_]; rfl
            have z23_ : (u520_.1 2).toInt = (u416_.1 2).toInt := by rw [eu520_]; rfl
            refine okk_ck (vp_I (by omega) (by omega)) ?_
            refine okk_gl (fun u624_ eu624_ => ?_)
            have Iu624_ : IM g u624_ := by rw [eu624_]; exact IM_wx Iu520_ 2 _ _ rfl rfl (by decide)
            have z25_ : (u624_.1 0).toInt = (u520_.1 0).toInt := by rw [eu624_]; rfl
            have z26_ : (u624_.1 1).toInt = (u520_.1 1).toInt := by rw [eu624_]; rfl
            have z27_ : (u624_.1 2).toInt = (u520_.1 2).toInt := by rw [eu624_]; rfl
            refine okk_ck (vp_I (by omega) (by omega)) ?_
            refine okk_gl (fun u728_ eu728_ => ?_)
            have Iu728_ : IM g u728_ := by rw [eu728_]; exact IM_wx Iu624_ 3 _ _ rfl rfl (by decide)
            have z29_ : (u728_.1 0).toInt = (u624_.1 0).toInt := by rw [eu728_]; rfl
            have z30_ : (u728_.1 1).toInt = (u624_.1 1).toInt := by rw [eu728_]; rfl
            have z31_ : (u728_.1 2).toInt = (u624_.1 2).toInt := by rw [eu728_]; rfl
            exact okk_some (⟨Iu728_, (by show ((u728_.1 0).toInt = 1 ∧ ¬ (0 ≤ p1.toInt ∧ p1.toInt ≤ 7)) ∨ ((u728_.1 0).toInt = 2 ∧ (0 ≤ p1.toInt ∧ p1.toInt ≤ 7) ∧ ¬ (0 ≤ p2.toInt ∧ p2.toInt ≤ 20000 ∧ 0 ≤ p3.toInt ∧ p3.toInt ≤ 100000 ∧ 0 ≤ p4.toInt ∧ p4.toInt ≤ 100 ∧ 1 ≤ p5.toInt ∧ p5.toInt ≤ 100)) ∨ ((u728_.1 0).toInt = 0 ∧ (0 ≤ p1.toInt ∧ p1.toInt ≤ 7) ∧ (0 ≤ p2.toInt ∧ p2.toInt ≤ 20000 ∧ 0 ≤ p3.toInt ∧ p3.toInt ≤ 100000 ∧ 0 ≤ p4.toInt ∧ p4.toInt ≤ 100 ∧ 1 ≤ p5.toInt ∧ p5.toInt ≤ 100)); omega)⟩)
          · refine okk_f (by decide) ?_
            unfold fm_rule_63
            obtain ⟨u32_, eu32_⟩ : ∃ y, y = g_sI u 0 (1 : Int32) := ⟨_, rfl⟩
            refine okk_bs (v := ((1 : Int32), u32_)) (by rw [eu32_]; exact fm_thr_1 _ _ _) ?_
            dsimp only
            have Iu32_ : IM g u32_ := by rw [eu32_]; exact IM_ix I _ (by decide)
            have h033_ : (u32_.1 0).toInt = 1 := by rw [eu32_, rdI, if_pos rfl]; decide
            have z34_ : (u32_.1 1).toInt = (u.1 1).toInt := by rw [eu32_]; rfl
            have z35_ : (u32_.1 2).toInt = (u.1 2).toInt := by rw [eu32_]; rfl
            refine okk_f (by decide) ?_
            exact okk_some (⟨Iu32_, (by show ((u32_.1 0).toInt = 1 ∧ ¬ (0 ≤ p1.toInt ∧ p1.toInt ≤ 7)) ∨ ((u32_.1 0).toInt = 2 ∧ (0 ≤ p1.toInt ∧ p1.toInt ≤ 7) ∧ ¬ (0 ≤ p2.toInt ∧ p2.toInt ≤ 20000 ∧ 0 ≤ p3.toInt ∧ p3.toInt ≤ 100000 ∧ 0 ≤ p4.toInt ∧ p4.toInt ≤ 100 ∧ 1 ≤ p5.toInt ∧ p5.toInt ≤ 100)) ∨ ((u32_.1 0).toInt = 0 ∧ (0 ≤ p1.toInt ∧ p1.toInt ≤ 7) ∧ (0 ≤ p2.toInt ∧ p2.toInt ≤ 20000 ∧ 0 ≤ p3.toInt ∧ p3.toInt ≤ 100000 ∧ 0 ≤ p4.toInt ∧ p4.toInt ≤ 100 ∧ 1 ≤ p5.toInt ∧ p5.toInt ≤ 100)); omega)⟩)
        · refine okk_f (by decide) ?_
          unfold fm_rule_48
          refine okk_isKind (fun b36_ => ?_) (fun b36_ => ?_)
          · refine okk_t (by decide) ?_
            unfold fm_rule_63
            obtain ⟨u37_, eu37_⟩ : ∃ y, y = g_sI u 0 (2 : Int32) := ⟨_, rfl⟩
            refine okk_bs (v := ((1 : Int32), u37_)) (by rw [eu37_]; exact fm_thr_2 _ _) ?_
            dsimp only
            have Iu37_ : IM g u37_ := by rw [eu37_]; exact IM_ix I _ (by decide)
            have h038_ : (u37_.1 0).toInt = 2 := by rw [eu37_, rdI, if_pos rfl]; decide
            have z39_ : (u37_.1 1).toInt = (u.1 1).toInt := by rw [eu37_]; rfl
            have z40_ : (u37_.1 2).toInt = (u.1 2).toInt := by rw [eu37_]; rfl
            refine okk_f (by decide) ?_
            exact okk_some (⟨Iu37_, (by show ((u37_.1 0).toInt = 1 ∧ ¬ (0 ≤ p1.toInt ∧ p1.toInt ≤ 7)) ∨ ((u37_.1 0).toInt = 2 ∧ (0 ≤ p1.toInt ∧ p1.toInt ≤ 7) ∧ ¬ (0 ≤ p2.toInt ∧ p2.toInt ≤ 20000 ∧ 0 ≤ p3.toInt ∧ p3.toInt ≤ 100000 ∧ 0 ≤ p4.toInt ∧ p4.toInt ≤ 100 ∧ 1 ≤ p5.toInt ∧ p5.toInt ≤ 100)) ∨ ((u37_.1 0).toInt = 0 ∧ (0 ≤ p1.toInt ∧ p1.toInt ≤ 7) ∧ (0 ≤ p2.toInt ∧ p2.toInt ≤ 20000 ∧ 0 ≤ p3.toInt ∧ p3.toInt ≤ 100000 ∧ 0 ≤ p4.toInt ∧ p4.toInt ≤ 100 ∧ 1 ≤ p5.toInt ∧ p5.toInt ≤ 100)); omega)⟩)
          · refine okk_f (by decide) ?_
            unfold fm_rule_63
            obtain ⟨u41_, eu41_⟩ : ∃ y, y = g_sI u 0 (1 : Int32) := ⟨_, rfl⟩
            refine okk_bs (v := ((1 : Int32), u41_)) (by rw [eu41_]; exact fm_thr_1 _ _ _) ?_
            dsimp only
            have Iu41_ : IM g u41_ := by rw [eu41_]; exact IM_ix I _ (by decide)
            have h042_ : (u41_.1 0).toInt = 1 := by rw [eu41_, rdI, if_pos rfl]; decide
            have z43_ : (u41_.1 1).toInt = (u.1 1).toInt := by rw [eu41_]; rfl
            have z44_ : (u41_.1 2).toInt = (u.1 2).toInt := by rw [eu41_]; rfl
            refine okk_f (by decide) ?_
            exact okk_some (⟨Iu41_, (by show ((u41_.1 0).toInt = 1 ∧ ¬ (0 ≤ p1.toInt ∧ p1.toInt ≤ 7)) ∨ ((u41_.1 0).toInt = 2 ∧ (0 ≤ p1.toInt ∧ p1.toInt ≤ 7) ∧ ¬ (0 ≤ p2.toInt ∧ p2.toInt ≤ 20000 ∧ 0 ≤ p3.toInt ∧ p3.toInt ≤ 100000 ∧ 0 ≤ p4.toInt ∧ p4.toInt ≤ 100 ∧ 1 ≤ p5.toInt ∧ p5.toInt ≤ 100)) ∨ ((u41_.1 0).toInt = 0 ∧ (0 ≤ p1.toInt ∧ p1.toInt ≤ 7) ∧ (0 ≤ p2.toInt ∧ p2.toInt ≤ 20000 ∧ 0 ≤ p3.toInt ∧ p3.toInt ≤ 100000 ∧ 0 ≤ p4.toInt ∧ p4.toInt ≤ 100 ∧ 1 ≤ p5.toInt ∧ p5.toInt ≤ 100)); omega)⟩)
      · refine okk_t (by decide) ?_
        unfold fm_rule_48
        refine okk_isKind (fun b45_ => ?_) (fun b45_ => ?_)
        · refine okk_t (by decide) ?_
          unfold fm_rule_63
          obtain ⟨u46_, eu46_⟩ : ∃ y, y = g_sI u 0 (2 : Int32) := ⟨_, rfl⟩
          refine okk_bs (v := ((1 : Int32), u46_)) (by rw [eu46_]; exact fm_thr_2 _ _) ?_
          dsimp only
          have Iu46_ : IM g u46_ := by rw [eu46_]; exact IM_ix I _ (by decide)
          have h047_ : (u46_.1 0).toInt = 2 := by rw [eu46_, rdI, if_pos rfl]; decide
          have z48_ : (u46_.1 1).toInt = (u.1 1).toInt := by rw [eu46_]; rfl
          have z49_ : (u46_.1 2).toInt = (u.1 2).toInt := by rw [eu46_]; rfl
          refine okk_f (by decide) ?_
          exact okk_some (⟨Iu46_, (by show ((u46_.1 0).toInt = 1 ∧ ¬ (0 ≤ p1.toInt ∧ p1.toInt ≤ 7)) ∨ ((u46_.1 0).toInt = 2 ∧ (0 ≤ p1.toInt ∧ p1.toInt ≤ 7) ∧ ¬ (0 ≤ p2.toInt ∧ p2.toInt ≤ 20000 ∧ 0 ≤ p3.toInt ∧ p3.toInt ≤ 100000 ∧ 0 ≤ p4.toInt ∧ p4.toInt ≤ 100 ∧ 1 ≤ p5.toInt ∧ p5.toInt ≤ 100)) ∨ ((u46_.1 0).toInt = 0 ∧ (0 ≤ p1.toInt ∧ p1.toInt ≤ 7) ∧ (0 ≤ p2.toInt ∧ p2.toInt ≤ 20000 ∧ 0 ≤ p3.toInt ∧ p3.toInt ≤ 100000 ∧ 0 ≤ p4.toInt ∧ p4.toInt ≤ 100 ∧ 1 ≤ p5.toInt ∧ p5.toInt ≤ 100)); omega)⟩)
        · refine okk_f (by decide) ?_
          unfold fm_rule_63
          obtain ⟨u50_, eu50_⟩ : ∃ y, y = g_sI u 0 (1 : Int32) := ⟨_, rfl⟩
          refine okk_bs (v := ((1 : Int32), u50_)) (by rw [eu50_]; exact fm_thr_1 _ _ _) ?_
          dsimp only
          have Iu50_ : IM g u50_ := by rw [eu50_]; exact IM_ix I _ (by decide)
          have h051_ : (u50_.1 0).toInt = 1 := by rw [eu50_, rdI, if_pos rfl]; decide
          have z52_ : (u50_.1 1).toInt = (u.1 1).toInt := by rw [eu50_]; rfl
          have z53_ : (u50_.1 2).toInt = (u.1 2).toInt := by rw [eu50_]; rfl
          refine okk_f (by decide) ?_
          exact okk_some (⟨Iu50_, (by show ((u50_.1 0).toInt = 1 ∧ ¬ (0 ≤ p1.toInt ∧ p1.toInt ≤ 7)) ∨ ((u50_.1 0).toInt = 2 ∧ (0 ≤ p1.toInt ∧ p1.toInt ≤ 7) ∧ ¬ (0 ≤ p2.toInt ∧ p2.toInt ≤ 20000 ∧ 0 ≤ p3.toInt ∧ p3.toInt ≤ 100000 ∧ 0 ≤ p4.toInt ∧ p4.toInt ≤ 100 ∧ 1 ≤ p5.toInt ∧ p5.toInt ≤ 100)) ∨ ((u50_.1 0).toInt = 0 ∧ (0 ≤ p1.toInt ∧ p1.toInt ≤ 7) ∧ (0 ≤ p2.toInt ∧ p2.toInt ≤ 20000 ∧ 0 ≤ p3.toInt ∧ p3.toInt ≤ 100000 ∧ 0 ≤ p4.toInt ∧ p4.toInt ≤ 100 ∧ 1 ≤ p5.toInt ∧ p5.toInt ≤ 100)); omega)⟩)
    · refine okk_t (by decide) ?_
      unfold fm_rule_48
      refine okk_isKind (fun b54_ => ?_) (fun b54_ => ?_)
      · refine okk_t (by decide) ?_
        unfold fm_rule_63
        obtain ⟨u55_, eu55_⟩ : ∃ y, y = g_sI u 0 (2 : Int32) := ⟨_, rfl⟩
        refine okk_bs (v := ((1 : Int32), u55_)) (by rw [eu55_]; exact fm_thr_2 _ _) ?_
        dsimp only
        have Iu55_ : IM g u55_ := by rw [eu55_]; exact IM_ix I _ (by decide)
        have h056_ : (u55_.1 0).toInt = 2 := by rw [eu55_, rdI, if_pos rfl]; decide
        have z57_ : (u55_.1 1).toInt = (u.1 1).toInt := by rw [eu55_]; rfl
        have z58_ : (u55_.1 2).toInt = (u.1 2).toInt := by rw [eu55_]; rfl
        refine okk_f (by decide) ?_
        exact okk_some (⟨Iu55_, (by show ((u55_.1 0).toInt = 1 ∧ ¬ (0 ≤ p1.toInt ∧ p1.toInt ≤ 7)) ∨ ((u55_.1 0).toInt = 2 ∧ (0 ≤ p1.toInt ∧ p1.toInt ≤ 7) ∧ ¬ (0 ≤ p2.toInt ∧ p2.toInt ≤ 20000 ∧ 0 ≤ p3.toInt ∧ p3.toInt ≤ 100000 ∧ 0 ≤ p4.toInt ∧ p4.toInt ≤ 100 ∧ 1 ≤ p5.toInt ∧ p5.toInt ≤ 100)) ∨ ((u55_.1 0).toInt = 0 ∧ (0 ≤ p1.toInt ∧ p1.toInt ≤ 7) ∧ (0 ≤ p2.toInt ∧ p2.toInt ≤ 20000 ∧ 0 ≤ p3.toInt ∧ p3.toInt ≤ 100000 ∧ 0 ≤ p4.toInt ∧ p4.toInt ≤ 100 ∧ 1 ≤ p5.toInt ∧ p5.toInt ≤ 100)); omega)⟩)
      · refine okk_f (by decide) ?_
        unfold fm_rule_63
        obtain ⟨u59_, eu59_⟩ : ∃ y, y = g_sI u 0 (1 : Int32) := ⟨_, rfl⟩
        refine okk_bs (v := ((1 : Int32), u59_)) (by rw [eu59_]; exact fm_thr_1 _ _ _) ?_
        dsimp only
        have Iu59_ : IM g u59_ := by rw [eu59_]; exact IM_ix I _ (by decide)
        have h060_ : (u59_.1 0).toInt = 1 := by rw [eu59_, rdI, if_pos rfl]; decide
        have z61_ : (u59_.1 1).toInt = (u.1 1).toInt := by rw [eu59_]; rfl
        have z62_ : (u59_.1 2).toInt = (u.1 2).toInt := by rw [eu59_]; rfl
        refine okk_f (by decide) ?_
        exact okk_some (⟨Iu59_, (by show ((u59_.1 0).toInt = 1 ∧ ¬ (0 ≤ p1.toInt ∧ p1.toInt ≤ 7)) ∨ ((u59_.1 0).toInt = 2 ∧ (0 ≤ p1.toInt ∧ p1.toInt ≤ 7) ∧ ¬ (0 ≤ p2.toInt ∧ p2.toInt ≤ 20000 ∧ 0 ≤ p3.toInt ∧ p3.toInt ≤ 100000 ∧ 0 ≤ p4.toInt ∧ p4.toInt ≤ 100 ∧ 1 ≤ p5.toInt ∧ p5.toInt ≤ 100)) ∨ ((u59_.1 0).toInt = 0 ∧ (0 ≤ p1.toInt ∧ p1.toInt ≤ 7) ∧ (0 ≤ p2.toInt ∧ p2.toInt ≤ 20000 ∧ 0 ≤ p3.toInt ∧ p3.toInt ≤ 100000 ∧ 0 ≤ p4.toInt ∧ p4.toInt ≤ 100 ∧ 1 ≤ p5.toInt ∧ p5.toInt ≤ 100)); omega)⟩)
  · refine okk_t (by decide) ?_
    unfold fm_rule_48
    refine okk_isKind (fun b63_ => ?_) (fun b63_ => ?_)
    · refine okk_t (by decide) ?_
      unfold fm_rule_63
      obtain ⟨u64_, eu64_⟩ : ∃ y, y = g_sI u 0 (2 : Int32) := ⟨_, rfl⟩
      refine okk_bs (v := ((1 : Int32), u64_)) (by rw [eu64_]; exact fm_thr_2 _ _) ?_
      dsimp only
      have Iu64_ : IM g u64_ := by rw [eu64_]; exact IM_ix I _ (by decide)
      have h065_ : (u64_.1 0).toInt = 2 := by rw [eu64_, rdI, if_pos rfl]; decide
      have z66_ : (u64_.1 1).toInt = (u.1 1).toInt := by rw [eu64_]; rfl
      have z67_ : (u64_.1 2).toInt = (u.1 2).toInt := by rw [eu64_]; rfl
      refine okk_f (by decide) ?_
      exact okk_some (⟨Iu64_, (by show ((u64_.1 0).toInt = 1 ∧ ¬ (0 ≤ p1.toInt ∧ p1.toInt ≤ 7)) ∨ ((u64_.1 0).toInt = 2 ∧ (0 ≤ p1.toInt ∧ p1.toInt ≤ 7) ∧ ¬ (0 ≤ p2.toInt ∧ p2.toInt ≤ 20000 ∧ 0 ≤ p3.toInt ∧ p3.toInt ≤ 100000 ∧ 0 ≤ p4.toInt ∧ p4.toInt ≤ 100 ∧ 1 ≤ p5.toInt ∧ p5.toInt ≤ 100)) ∨ ((u64_.1 0).toInt = 0 ∧ (0 ≤ p1.toInt ∧ p1.toInt ≤ 7) ∧ (0 ≤ p2.toInt ∧ p2.toInt ≤ 20000 ∧ 0 ≤ p3.toInt ∧ p3.toInt ≤ 100000 ∧ 0 ≤ p4.toInt ∧ p4.toInt ≤ 100 ∧ 1 ≤ p5.toInt ∧ p5.toInt ≤ 100)); omega)⟩)
    · refine okk_f (by decide) ?_
      unfold fm_rule_63
      obtain ⟨u68_, eu68_⟩ : ∃ y, y = g_sI u 0 (1 : Int32) := ⟨_, rfl⟩
      refine okk_bs (v := ((1 : Int32), u68_)) (by rw [eu68_]; exact fm_thr_1 _ _ _) ?_
      dsimp only
      have Iu68_ : IM g u68_ := by rw [eu68_]; exact IM_ix I _ (by decide)
      have h069_ : (u68_.1 0).toInt = 1 := by rw [eu68_, rdI, if_pos rfl]; decide
      have z70_ : (u68_.1 1).toInt = (u.1 1).toInt := by rw [eu68_]; rfl
      have z71_ : (u68_.1 2).toInt = (u.1 2).toInt := by rw [eu68_]; rfl
      refine okk_f (by decide) ?_
      exact okk_some (⟨Iu68_, (by show ((u68_.1 0).toInt = 1 ∧ ¬ (0 ≤ p1.toInt ∧ p1.toInt ≤ 7)) ∨ ((u68_.1 0).toInt = 2 ∧ (0 ≤ p1.toInt ∧ p1.toInt ≤ 7) ∧ ¬ (0 ≤ p2.toInt ∧ p2.toInt ≤ 20000 ∧ 0 ≤ p3.toInt ∧ p3.toInt ≤ 100000 ∧ 0 ≤ p4.toInt ∧ p4.toInt ≤ 100 ∧ 1 ≤ p5.toInt ∧ p5.toInt ≤ 100)) ∨ ((u68_.1 0).toInt = 0 ∧ (0 ≤ p1.toInt ∧ p1.toInt ≤ 7) ∧ (0 ≤ p2.toInt ∧ p2.toInt ≤ 20000 ∧ 0 ≤ p3.toInt ∧ p3.toInt ≤ 100000 ∧ 0 ≤ p4.toInt ∧ p4.toInt ≤ 100 ∧ 1 ≤ p5.toInt ∧ p5.toInt ≤ 100)); omega)⟩)
end
section
set_option maxHeartbeats 4000000 in
theorem okk_fm_weight {g : Nat → Int32} {u : g_S} (I : IM g u) {p1 : Int32} {p2 : Int32} {p3 : Int32} : okk (fm_weight u p1 p2 p3) (fun r => IM g r ∧ (((r.1 0).toInt = 1 ∧ ¬ (0 ≤ p1.toInt ∧ p1.toInt ≤ 7 ∧ 0 ≤ p2.toInt ∧ p2.toInt ≤ 31)) ∨ ((r.1 0).toInt = 2 ∧ (0 ≤ p1.toInt ∧ p1.toInt ≤ 7 ∧ 0 ≤ p2.toInt ∧ p2.toInt ≤ 31) ∧ ¬ (0 ≤ p3.toInt ∧ p3.toInt ≤ 100)) ∨ ((r.1 0).toInt = 0 ∧ (0 ≤ p1.toInt ∧ p1.toInt ≤ 7 ∧ 0 ≤ p2.toInt ∧ p2.toInt ≤ 31) ∧ (0 ≤ p3.toInt ∧ p3.toInt ≤ 100)))) := by
  unfold fm_weight
  have z1_ := IM_s I
  refine okk_isKind (fun b2_ => ?_) (fun b2_ => ?_)
  · refine okk_f (by decide) ?_
    try have t3_ : (0 : Int32).toInt = (0 : Int) := (by decide : (0 : Int32).toInt = 0)
    try have t4_ : (31 : Int32).toInt = (31 : Int) := (by decide : (31 : Int32).toInt = 31)
    refine okk_in (fun b5_ => ?_) (fun b5_ => ?_)
    · refine okk_t (by decide) ?_
      unfold fm_weight_23
      try have t6_ : (100 : Int32).toInt = (100 : Int) := (by decide : (100 : Int32).toInt = 100)
      refine okk_in (fun b7_ => ?_) (fun b7_ => ?_)
      · refine okk_t (by decide) ?_
        unfold fm_weight_38
        obtain ⟨u8_, eu8_⟩ : ∃ y, y = g_sI u 0 (0 : Int32) := ⟨_, rfl⟩
        refine okk_bs (v := ((0 : Int32), u8_)) (by rw [eu8_]; exact fm_thr_0 _) ?_
        dsimp only
        have Iu8_ : IM g u8_ := by rw [eu8_]; exact IM_ix I _ (by decide)
        have h09_ : (u8_.1 0).toInt = 0 := by rw [eu8_, rdI, if_pos rfl]; decide
        have z10_ : (u8_.1 1).toInt = (u.1 1).toInt := by rw [eu8_]; rfl
        have z11_ : (u8_.1 2).toInt = (u.1 2).toInt := by rw [eu8_]; rfl
        refine okk_t (by decide) ?_
        have t12_ : (((32 : Int32) * p1) + p2).toInt = (((32 : Int) * p1.toInt) + p2.toInt) := (oi_add (a := ((32 : Int32) * p1)) (b := p2) (oi_mul (a := (32 : Int32)) (b := p1) (by decide : (32 : Int32).toInt = 32) rfl (by omega) (by omega)) rfl (by omega) (by omega))
        refine okk_ck (vp_I (by omega) (by omega)) ?_
        refine okk_gl (fun u413_ eu413_ => ?_)
        have Iu413_ : IM g u413_ := by rw [eu413_]; exact IM_wx Iu8_ 4 _ _ rfl rfl (by decide)
        have z14_ : (u413_.1 0).toInt = (u8_.1 0).toInt := by rw [eu413_]; rfl
        have z15_ : (u413_.1 1).toInt = (u8_.1 1).toInt := by rw [eu413_]; rfl
        have z16_ : (u413_.1 2).toInt = (u8_.1 2).toInt := by rw [eu413_]; rfl
        exact okk_some (⟨Iu413_, (by show ((u413_.1 0).toInt = 1 ∧ ¬ (0 ≤ p1.toInt ∧ p1.toInt ≤ 7 ∧ 0 ≤ p2.toInt ∧ p2.toInt ≤ 31)) ∨ ((u413_.1 0).toInt = 2 ∧ (0 ≤ p1.toInt ∧ p1.toInt ≤ 7 ∧ 0 ≤ p2.toInt ∧ p2.toInt ≤ 31) ∧ ¬ (0 ≤ p3.toInt ∧ p3.toInt ≤ 100)) ∨ ((u413_.1 0).toInt = 0 ∧ (0 ≤ p1.toInt ∧ p1.toInt ≤ 7 ∧ 0 ≤ p2.toInt ∧ p2.toInt ≤ 31) ∧ (0 ≤ p3.toInt ∧ p3.toInt ≤ 100)); omega)⟩)
      · refine okk_f (by decide) ?_
        unfold fm_weight_38
        obtain ⟨u17_, eu17_⟩ : ∃ y, y = g_sI u 0 (2 : Int32) := ⟨_, rfl⟩
        refine okk_bs (v := ((1 : Int32), u17_)) (by rw [eu17_]; exact fm_thr_2 _ _) ?_
        dsimp only
        have Iu17_ : IM g u17_ := by rw [eu17_]; exact IM_ix I _ (by decide)
        have h018_ : (u17_.1 0).toInt = 2 := by rw [eu17_, rdI, if_pos rfl]; decide
        have z19_ : (u17_.1 1).toInt = (u.1 1).toInt := by rw [eu17_]; rfl
        have z20_ : (u17_.1 2).toInt = (u.1 2).toInt := by rw [eu17_]; rfl
        refine okk_f (by decide) ?_
        exact okk_some (⟨Iu17_, (by show ((u17_.1 0).toInt = 1 ∧ ¬ (0 ≤ p1.toInt ∧ p1.toInt ≤ 7 ∧ 0 ≤ p2.toInt ∧ p2.toInt ≤ 31)) ∨ ((u17_.1 0).toInt = 2 ∧ (0 ≤ p1.toInt ∧ p1.toInt ≤ 7 ∧ 0 ≤ p2.toInt ∧ p2.toInt ≤ 31) ∧ ¬ (0 ≤ p3.toInt ∧ p3.toInt ≤ 100)) ∨ ((u17_.1 0).toInt = 0 ∧ (0 ≤ p1.toInt ∧ p1.toInt ≤ 7 ∧ 0 ≤ p2.toInt ∧ p2.toInt ≤ 31) ∧ (0 ≤ p3.toInt ∧ p3.toInt ≤ 100)); omega)⟩)
    · refine okk_f (by decide) ?_
      unfold fm_weight_23
      try have t21_ : (100 : Int32).toInt = (100 : Int) := (by decide : (100 : Int32).toInt = 100)
      refine okk_in (fun b22_ => ?_) (fun b22_ => ?_)
      · refine okk_t (by decide) ?_
        unfold fm_weight_38
        obtain ⟨u23_, eu23_⟩ : ∃ y, y = g_sI u 0 (1 : Int32) := ⟨_, rfl⟩
        refine okk_bs (v := ((1 : Int32), u23_)) (by rw [eu23_]; exact fm_thr_1 _ _ _) ?_
        dsimp only
        have Iu23_ : IM g u23_ := by rw [eu23_]; exact IM_ix I _ (by decide)
        have h024_ : (u23_.1 0).toInt = 1 := by rw [eu23_, rdI, if_pos rfl]; decide
        have z25_ : (u23_.1 1).toInt = (u.1 1).toInt := by rw [eu23_]; rfl
        have z26_ : (u23_.1 2).toInt = (u.1 2).toInt := by rw [eu23_]; rfl
        refine okk_f (by decide) ?_
        exact okk_some (⟨Iu23_, (by show ((u23_.1 0).toInt = 1 ∧ ¬ (0 ≤ p1.toInt ∧ p1.toInt ≤ 7 ∧ 0 ≤ p2.toInt ∧ p2.toInt ≤ 31)) ∨ ((u23_.1 0).toInt = 2 ∧ (0 ≤ p1.toInt ∧ p1.toInt ≤ 7 ∧ 0 ≤ p2.toInt ∧ p2.toInt ≤ 31) ∧ ¬ (0 ≤ p3.toInt ∧ p3.toInt ≤ 100)) ∨ ((u23_.1 0).toInt = 0 ∧ (0 ≤ p1.toInt ∧ p1.toInt ≤ 7 ∧ 0 ≤ p2.toInt ∧ p2.toInt ≤ 31) ∧ (0 ≤ p3.toInt ∧ p3.toInt ≤ 100)); omega)⟩)
      · refine okk_f (by decide) ?_
        unfold fm_weight_38
        obtain ⟨u27_, eu27_⟩ : ∃ y, y = g_sI u 0 (1 : Int32) := ⟨_, rfl⟩
        refine okk_bs (v := ((1 : Int32), u27_)) (by rw [eu27_]; exact fm_thr_1 _ _ _) ?_
        dsimp only
        have Iu27_ : IM g u27_ := by rw [eu27_]; exact IM_ix I _ (by decide)
        have h028_ : (u27_.1 0).toInt = 1 := by rw [eu27_, rdI, if_pos rfl]; decide
        have z29_ : (u27_.1 1).toInt = (u.1 1).toInt := by rw [eu27_]; rfl
        have z30_ : (u27_.1 2).toInt = (u.1 2).toInt := by rw [eu27_]; rfl
        refine okk_f (by decide) ?_
        exact okk_some (⟨Iu27_, (by show ((u27_.1 0).toInt = 1 ∧ ¬ (0 ≤ p1.toInt ∧ p1.toInt ≤ 7 ∧ 0 ≤ p2.toInt ∧ p2.toInt ≤ 31)) ∨ ((u27_.1 0).toInt = 2 ∧ (0 ≤ p1.toInt ∧ p1.toInt ≤ 7 ∧ 0 ≤ p2.toInt ∧ p2.toInt ≤ 31) ∧ ¬ (0 ≤ p3.toInt ∧ p3.toInt ≤ 100)) ∨ ((u27_.1 0).toInt = 0 ∧ (0 ≤ p1.toInt ∧ p1.toInt ≤ 7 ∧ 0 ≤ p2.toInt ∧ p2.toInt ≤ 31) ∧ (0 ≤ p3.toInt ∧ p3.toInt ≤ 100)); omega)⟩)
  · refine okk_t (by decide) ?_
    unfold fm_weight_23
    try have t31_ : (0 : Int32).toInt = (0 : Int) := (by decide : (0 : Int32).toInt = 0)
    try have t32_ : (100 : Int32).toInt = (100 : Int) := (by decide : (100 : Int32).toInt = 100)
    refine okk_in (fun b33_ => ?_) (fun b33_ => ?_)
    · refine okk_t (by decide) ?_
      unfold fm_weight_38
      obtain ⟨u34_, eu34_⟩ : ∃ y, y = g_sI u 0 (1 : Int32) := ⟨_, rfl⟩
      refine okk_bs (v := ((1 : Int32), u34_)) (by rw [eu34_]; exact fm_thr_1 _ _ _) ?_
      dsimp only
      have Iu34_ : IM g u34_ := by rw [eu34_]; exact IM_ix I _ (by decide)
      have h035_ : (u34_.1 0).toInt = 1 := by rw [eu34_, rdI, if_pos rfl]; decide
      have z36_ : (u34_.1 1).toInt = (u.1 1).toInt := by rw [eu34_]; rfl
      have z37_ : (u34_.1 2).toInt = (u.1 2).toInt := by rw [eu34_]; rfl
      refine okk_f (by decide) ?_
      exact okk_some (⟨Iu34_, (by show ((u34_.1 0).toInt = 1 ∧ ¬ (0 ≤ p1.toInt ∧ p1.toInt ≤ 7 ∧ 0 ≤ p2.toInt ∧ p2.toInt ≤ 31)) ∨ ((u34_.1 0).toInt = 2 ∧ (0 ≤ p1.toInt ∧ p1.toInt ≤ 7 ∧ 0 ≤ p2.toInt ∧ p2.toInt ≤ 31) ∧ ¬ (0 ≤ p3.toInt ∧ p3.toInt ≤ 100)) ∨ ((u34_.1 0).toInt = 0 ∧ (0 ≤ p1.toInt ∧ p1.toInt ≤ 7 ∧ 0 ≤ p2.toInt ∧ p2.toInt ≤ 31) ∧ (0 ≤ p3.toInt ∧ p3.toInt ≤ 100)); omega)⟩)
    · refine okk_f (by decide) ?_
      unfold fm_weight_38
      obtain ⟨u38_, eu38_⟩ : ∃ y, y = g_sI u 0 (1 : Int32) := ⟨_, rfl⟩
      refine okk_bs (v := ((1 : Int32), u38_)) (by rw [eu38_]; exact fm_thr_1 _ _ _) ?_
      dsimp only
      have Iu38_ : IM g u38_ := by rw [eu38_]; exact IM_ix I _ (by decide)
      have h039_ : (u38_.1 0).toInt = 1 := by rw [eu38_, rdI, if_pos rfl]; decide
      have z40_ : (u38_.1 1).toInt = (u.1 1).toInt := by rw [eu38_]; rfl
      have z41_ : (u38_.1 2).toInt = (u.1 2).toInt := by rw [eu38_]; rfl
      refine okk_f (by decide) ?_
      exact okk_some (⟨Iu38_, (by show ((u38_.1 0).toInt = 1 ∧ ¬ (0 ≤ p1.toInt ∧ p1.toInt ≤ 7 ∧ 0 ≤ p2.toInt ∧ p2.toInt ≤ 31)) ∨ ((u38_.1 0).toInt = 2 ∧ (0 ≤ p1.toInt ∧ p1.toInt ≤ 7 ∧ 0 ≤ p2.toInt ∧ p2.toInt ≤ 31) ∧ ¬ (0 ≤ p3.toInt ∧ p3.toInt ≤ 100)) ∨ ((u38_.1 0).toInt = 0 ∧ (0 ≤ p1.toInt ∧ p1.toInt ≤ 7 ∧ 0 ≤ p2.toInt ∧ p2.toInt ≤ 31) ∧ (0 ≤ p3.toInt ∧ p3.toInt ≤ 100)); omega)⟩)
set_option maxHeartbeats 4000000 in
theorem okk_fm_mark {g : Nat → Int32} {u : g_S} (I : IM g u) {p1 : Int32} {p2 : Int32} : okk (fm_mark u p1 p2) (fun r => IM g r) := by
  unfold fm_mark
  have z1_ := IM_s I
  refine okk_isCall (fun b2_ => ?_) (fun b2_ => ?_)
  · have t3_ : ((u.1 1) - (1 : Int32)).toInt = ((u.1 1).toInt - (1 : Int)) := (oi_sub (a := (u.1 1)) (b := (1 : Int32)) rfl (by decide : (1 : Int32).toInt = 1) (by omega) (by omega))
    refine okk_t (by decide) ?_
    unfold fm_mark_14
    try have t4_ : (0 : Int32).toInt = (0 : Int) := (by decide : (0 : Int32).toInt = 0)
    try have t5_ : (7 : Int32).toInt = (7 : Int) := (by decide : (7 : Int32).toInt = 7)
    refine okk_in (fun b6_ => ?_) (fun b6_ => ?_)
    · refine okk_t (by decide) ?_
      unfold fm_mark_29
      obtain ⟨u7_, eu7_⟩ : ∃ y, y = g_sI u 0 (0 : Int32) := ⟨_, rfl⟩
      refine okk_bs (v := ((0 : Int32), u7_)) (by rw [eu7_]; exact fm_thr_0 _) ?_
      dsimp only
      have Iu7_ : IM g u7_ := by rw [eu7_]; exact IM_ix I _ (by decide)
      have h08_ : (u7_.1 0).toInt = 0 := by rw [eu7_, rdI, if_pos rfl]; decide
      have z9_ : (u7_.1 1).toInt = (u.1 1).toInt := by rw [eu7_]; rfl
      have z10_ : (u7_.1 2).toInt = (u.1 2).toInt := by rw [eu7_]; rfl
      refine okk_t (by decide) ?_
      refine okk_ck (vp_I (by omega) (by omega)) ?_
      refine okk_gl (fun u411_ eu411_ => ?_)
      have Iu411_ : IM g u411_ := by rw [eu411_]; exact IM_wx Iu7_ 14 _ _ rfl rfl (by decide)
      have z12_ : (u411_.1 0).toInt = (u7_.1 0).toInt := by rw [eu411_]; rfl
      have z13_ : (u411_.1 1).toInt = (u7_.1 1).toInt := by rw [eu411_]; rfl
      have z14_ : (u411_.1 2).toInt = (u7_.1 2).toInt := by rw [eu411_]; rfl
      exact okk_some (Iu411_)
    · refine okk_f (by decide) ?_
      unfold fm_mark_29
      obtain ⟨u15_, eu15_⟩ : ∃ y, y = g_sI u 0 (2 : Int32) := ⟨_, rfl⟩
      refine okk_bs (v := ((1 : Int32), u15_)) (by rw [eu15_]; exact fm_thr_2 _ _) ?_
      dsimp only
      have Iu15_ : IM g u15_ := by rw [eu15_]; exact IM_ix I _ (by decide)
      have h016_ : (u15_.1 0).toInt = 2 := by rw [eu15_, rdI, if_pos rfl]; decide
      have z17_ : (u15_.1 1).toInt = (u.1 1).toInt := by rw [eu15_]; rfl
      have z18_ : (u15_.1 2).toInt = (u.1 2).toInt := by rw [eu15_]; rfl
      refine okk_f (by decide) ?_
      exact okk_some (Iu15_)
  · have t19_ : ((u.1 1) - (1 : Int32)).toInt = ((u.1 1).toInt - (1 : Int)) := (oi_sub (a := (u.1 1)) (b := (1 : Int32)) rfl (by decide : (1 : Int32).toInt = 1) (by omega) (by omega))
    refine okk_f (by decide) ?_
    unfold fm_mark_14
    try have t20_ : (0 : Int32).toInt = (0 : Int) := (by decide : (0 : Int32).toInt = 0)
    try have t21_ : (7 : Int32).toInt = (7 : Int) := (by decide : (7 : Int32).toInt = 7)
    refine okk_in (fun b22_ => ?_) (fun b22_ => ?_)
    · refine okk_t (by decide) ?_
      unfold fm_mark_29
      obtain ⟨u23_, eu23_⟩ : ∃ y, y = g_sI u 0 (1 : Int32) := ⟨_, rfl⟩
      refine okk_bs (v := ((1 : Int32), u23_)) (by rw [eu23_]; exact fm_thr_1 _ _ _) ?_
      dsimp only
      have Iu23_ : IM g u23_ := by rw [eu23_]; exact IM_ix I _ (by decide)
      have h024_ : (u23_.1 0).toInt = 1 := by rw [eu23_, rdI, if_pos rfl]; decide
      have z25_ : (u23_.1 1).toInt = (u.1 1).toInt := by rw [eu23_]; rfl
      have z26_ : (u23_.1 2).toInt = (u.1 2).toInt := by rw [eu23_]; rfl
      refine okk_f (by decide) ?_
      exact okk_some (Iu23_)
    · refine okk_f (by decide) ?_
      unfold fm_mark_29
      obtain ⟨u27_, eu27_⟩ : ∃ y, y = g_sI u 0 (1 : Int32) := ⟨_, rfl⟩
      refine okk_bs (v := ((1 : Int32), u27_)) (by rw [eu27_]; exact fm_thr_1 _ _ _) ?_
      dsimp only
      have Iu27_ : IM g u27_ := by rw [eu27_]; exact IM_ix I _ (by decide)
      have h028_ : (u27_.1 0).toInt = 1 := by rw [eu27_, rdI, if_pos rfl]; decide
      have z29_ : (u27_.1 1).toInt = (u.1 1).toInt := by rw [eu27_]; rfl
      have z30_ : (u27_.1 2).toInt = (u.1 2).toInt := by rw [eu27_]; rfl
      refine okk_f (by decide) ?_
      exact okk_some (Iu27_)
set_option maxHeartbeats 4000000 in
theorem okk_fm_watch {g : Nat → Int32} {u : g_S} (I : IM g u) {p1 : Int32} {p2 : Int32} {p3 : Int32} {p4 : Int32} : okk (fm_watch u p1 p2 p3 p4) (fun r => IM g r) := by
  unfold fm_watch
  have z1_ := IM_s I
  refine okk_isEvent (fun b2_ => ?_) (fun b2_ => ?_)
  · have t3_ : ((u.1 2) - (1 : Int32)).toInt = ((u.1 2).toInt - (1 : Int)) := (oi_sub (a := (u.1 2)) (b := (1 : Int32)) rfl (by decide : (1 : Int32).toInt = 1) (by omega) (by omega))
    refine okk_f (by decide) ?_
    refine okk_isRoad (fun b4_ => ?_) (fun b4_ => ?_)
    · refine okk_f (by decide) ?_
      unfold fm_watch_20
      refine okk_f (by decide) ?_
      refine okk_ck (vp_I (by omega) (by omega)) ?_
      try have t5_ : (0 : Int32).toInt = (0 : Int) := (by decide : (0 : Int32).toInt = 0)
      have r6_ := IM_r5 I p2.toNatClampNeg
      try have t7_ : ((u.2 5 p2.toNatClampNeg) - (1 : Int32)).toInt = ((u.2 5 p2.toNatClampNeg).toInt - (1 : Int)) := (oi_sub (a := (u.2 5 p2.toNatClampNeg)) (b := (1 : Int32)) rfl (by decide : (1 : Int32).toInt = 1) (by omega) (by omega))
      refine okk_in (fun b8_ => ?_) (fun b8_ => ?_)
      · refine okk_f (by decide) ?_
        refine okk_ck (vp_I (by omega) (by omega)) ?_
        refine okk_in (fun b9_ => ?_) (fun b9_ => ?_)
        · refine okk_f (by decide) ?_
          refine okk_eq (fun c10_ c10_I => ?_) (fun c10_ c10_I => ?_)
          · unfold fm_watch_71
            refine okk_t (by decide) ?_
            refine okk_f (by decide) ?_
            unfold fm_watch_94
            refine okk_f (by decide) ?_
            refine okk_ck (vp_I (by omega) (by omega)) ?_
            refine okk_eq (fun c11_ c11_I => ?_) (fun c11_ c11_I => ?_)
            · unfold fm_watch_113
              obtain ⟨u12_, eu12_⟩ : ∃ y, y = g_sI u 0 (2 : Int32) := ⟨_, rfl⟩
              refine okk_bs (v := ((1 : Int32), u12_)) (by rw [eu12_]; exact fm_thr_2 _ _) ?_
              dsimp only
              have Iu12_ : IM g u12_ := by rw [eu12_]; exact IM_ix I _ (by decide)
              have h013_ : (u12_.1 0).toInt = 2 := by rw [eu12_, rdI, if_pos rfl]; decide
              have z14_ : (u12_.1 1).toInt = (u.1 1).toInt := by rw [eu12_]; rfl
              have z15_ : (u12_.1 2).toInt = (u.1 2).toInt := by rw [eu12_]; rfl
              refine okk_f (by decide) ?_
              exact okk_some (Iu12_)
            · unfold fm_watch_113
              obtain ⟨u16_, eu16_⟩ : ∃ y, y = g_sI u 0 (2 : Int32) := ⟨_, rfl⟩
              refine okk_bs (v := ((1 : Int32), u16_)) (by rw [eu16_]; exact fm_thr_2 _ _) ?_
              dsimp only
              have Iu16_ : IM g u16_ := by rw [eu16_]; exact IM_ix I _ (by decide)
              have h017_ : (u16_.1 0).toInt = 2 := by rw [eu16_, rdI, if_pos rfl]; decide
              have z18_ : (u16_.1 1).toInt = (u.1 1).toInt := by rw [eu16_]; rfl
              have z19_ : (u16_.1 2).toInt = (u.1 2).toInt := by rw [eu16_]; rfl
              refine okk_f (by decide) ?_
              exact okk_some (Iu16_)
          · unfold fm_watch_71
            refine okk_t (by decide) ?_
            refine okk_t (by decide) ?_
            unfold fm_watch_94
            refine okk_f (by decide) ?_
            refine okk_ck (vp_I (by omega) (by omega)) ?_
            refine okk_eq (fun c20_ c20_I => ?_) (fun c20_ c20_I => ?_)
            · unfold fm_watch_113
              obtain ⟨u21_, eu21_⟩ : ∃ y, y = g_sI u 0 (0 : Int32) := ⟨_, rfl⟩
              refine okk_bs (v := ((0 : Int32), u21_)) (by rw [eu21_]; exact fm_thr_0 _) ?_
              dsimp only
              have Iu21_ : IM g u21_ := by rw [eu21_]; exact IM_ix I _ (by decide)
              have h022_ : (u21_.1 0).toInt = 0 := by rw [eu21_, rdI, if_pos rfl]; decide
              have z23_ : (u21_.1 1).toInt = (u.1 1).toInt := by rw [eu21_]; rfl
              have z24_ : (u21_.1 2).toInt = (u.1 2).toInt := by rw [eu21_]; rfl
              refine okk_t (by decide) ?_
              refine okk_ck (vp_I (by omega) (by omega)) ?_
              refine okk_gl (fun u325_ eu325_ => ?_)
              have Iu325_ : IM g u325_ := by rw [eu325_]; exact IM_v17 Iu21_ _ _ (by omega) (by omega)
              have z26_ : (u325_.1 0).toInt = (u21_.1 0).toInt := by rw [eu325_]; rfl
              have z27_ : (u325_.1 1).toInt = (u21_.1 1).toInt := by rw [eu325_]; rfl
              have z28_ : (u325_.1 2).toInt = (u21_.1 2).toInt := by rw [eu325_]; rfl
              refine okk_ck (vp_I (by omega) (by omega)) ?_
              refine okk_gl (fun u429_ eu429_ => ?_)
              have Iu429_ : IM g u429_ := by rw [eu429_]; exact IM_v18 Iu325_ _ _ (by omega) (by omega)
              have z30_ : (u429_.1 0).toInt = (u325_.1 0).toInt := by rw [eu429_]; rfl
              have z31_ : (u429_.1 1).toInt = (u325_.1 1).toInt := by rw [eu429_]; rfl
              have z32_ : (u429_.1 2).toInt = (u325_.1 2).toInt := by rw [eu429_]; rfl
              refine okk_ck (vp_I (by omega) (by omega)) ?_
              refine okk_gl (fun u533_ eu533_ => ?_)
              have Iu533_ : IM g u533_ := by rw [eu533_]; exact IM_v19 Iu429_ _ _ (by omega) (by omega)
              have z34_ : (u533_.1 0).toInt = (u429_.1 0).toInt := by rw [eu533_]; rfl
              have z35_ : (u533_.1 1).toInt = (u429_.1 1).toInt := by rw [eu533_]; rfl
              have z36_ : (u533_.1 2).toInt = (u429_.1 2).toInt := by rw [eu533_]; rfl
              exact okk_some (Iu533_)
            · unfold fm_watch_113
              obtain ⟨u37_, eu37_⟩ : ∃ y, y = g_sI u 0 (3 : Int32) := ⟨_, rfl⟩
              refine okk_bs (v := ((1 : Int32), u37_)) (by rw [eu37_]; exact fm_thr_3 _) ?_
              dsimp only
              have Iu37_ : IM g u37_ := by rw [eu37_]; exact IM_ix I _ (by decide)
              have h038_ : (u37_.1 0).toInt = 3 := by rw [eu37_, rdI, if_pos rfl]; decide
              have z39_ : (u37_.1 1).toInt = (u.1 1).toInt := by rw [eu37_]; rfl
              have z40_ : (u37_.1 2).toInt = (u.1 2).toInt := by rw [eu37_]; rfl
              refine okk_f (by decide) ?_
              exact okk_some (Iu37_)
        · refine okk_t (by decide) ?_
          unfold fm_watch_71
          refine okk_t (by decide) ?_
          refine okk_f (by decide) ?_
          unfold fm_watch_94
          refine okk_f (by decide) ?_
          refine okk_ck (vp_I (by omega) (by omega)) ?_
          refine okk_eq (fun c41_ c41_I => ?_) (fun c41_ c41_I => ?_)
          · unfold fm_watch_113
            obtain ⟨u42_, eu42_⟩ : ∃ y, y = g_sI u 0 (2 : Int32) := ⟨_, rfl⟩
            refine okk_bs (v := ((1 : Int32), u42_)) (by rw [eu42_]; exact fm_thr_2 _ _) ?_
            dsimp only
            have Iu42_ : IM g u42_ := by rw [eu42_]; exact IM_ix I _ (by decide)
            have h043_ : (u42_.1 0).toInt = 2 := by rw [eu42_, rdI, if_pos rfl]; decide
            have z44_ : (u42_.1 1).toInt = (u.1 1).toInt := by rw [eu42_]; rfl
            have z45_ : (u42_.1 2).toInt = (u.1 2).toInt := by rw [eu42_]; rfl
            refine okk_f (by decide) ?_
            exact okk_some (Iu42_)
          · unfold fm_watch_113
            obtain ⟨u46_, eu46_⟩ : ∃ y, y = g_sI u 0 (2 : Int32) := ⟨_, rfl⟩
            refine okk_bs (v := ((1 : Int32), u46_)) (by rw [eu46_]; exact fm_thr_2 _ _) ?_
            dsimp only
            have Iu46_ : IM g u46_ := by rw [eu46_]; exact IM_ix I _ (by decide)
            have h047_ : (u46_.1 0).toInt = 2 := by rw [eu46_, rdI, if_pos rfl]; decide
            have z48_ : (u46_.1 1).toInt = (u.1 1).toInt := by rw [eu46_]; rfl
            have z49_ : (u46_.1 2).toInt = (u.1 2).toInt := by rw [eu46_]; rfl
            refine okk_f (by decide) ?_
            exact okk_some (Iu46_)
      · refine okk_t (by decide) ?_
        unfold fm_watch_71
        refine okk_t (by decide) ?_
        refine okk_f (by decide) ?_
        unfold fm_watch_94
        refine okk_f (by decide) ?_
        refine okk_ck (vp_I (by omega) (by omega)) ?_
        refine okk_eq (fun c50_ c50_I => ?_) (fun c50_ c50_I => ?_)
        · unfold fm_watch_113
          obtain ⟨u51_, eu51_⟩ : ∃ y, y = g_sI u 0 (2 : Int32) := ⟨_, rfl⟩
          refine okk_bs (v := ((1 : Int32), u51_)) (by rw [eu51_]; exact fm_thr_2 _ _) ?_
          dsimp only
          have Iu51_ : IM g u51_ := by rw [eu51_]; exact IM_ix I _ (by decide)
          have h052_ : (u51_.1 0).toInt = 2 := by rw [eu51_, rdI, if_pos rfl]; decide
          have z53_ : (u51_.1 1).toInt = (u.1 1).toInt := by rw [eu51_]; rfl
          have z54_ : (u51_.1 2).toInt = (u.1 2).toInt := by rw [eu51_]; rfl
          refine okk_f (by decide) ?_
          exact okk_some (Iu51_)
        · unfold fm_watch_113
          obtain ⟨u55_, eu55_⟩ : ∃ y, y = g_sI u 0 (2 : Int32) := ⟨_, rfl⟩
          refine okk_bs (v := ((1 : Int32), u55_)) (by rw [eu55_]; exact fm_thr_2 _ _) ?_
          dsimp only
          have Iu55_ : IM g u55_ := by rw [eu55_]; exact IM_ix I _ (by decide)
          have h056_ : (u55_.1 0).toInt = 2 := by rw [eu55_, rdI, if_pos rfl]; decide
          have z57_ : (u55_.1 1).toInt = (u.1 1).toInt := by rw [eu55_]; rfl
          have z58_ : (u55_.1 2).toInt = (u.1 2).toInt := by rw [eu55_]; rfl
          refine okk_f (by decide) ?_
          exact okk_some (Iu55_)
    · refine okk_t (by decide) ?_
      unfold fm_watch_20
      refine okk_t (by decide) ?_
      unfold fm_watch_71
      refine okk_f (by decide) ?_
      refine okk_f (by decide) ?_
      unfold fm_watch_94
      refine okk_t (by decide) ?_
      unfold fm_watch_113
      obtain ⟨u59_, eu59_⟩ : ∃ y, y = g_sI u 0 (1 : Int32) := ⟨_, rfl⟩
      refine okk_bs (v := ((1 : Int32), u59_)) (by rw [eu59_]; exact fm_thr_1 _ _ _) ?_
      dsimp only
      have Iu59_ : IM g u59_ := by rw [eu59_]; exact IM_ix I _ (by decide)
      have h060_ : (u59_.1 0).toInt = 1 := by rw [eu59_, rdI, if_pos rfl]; decide
      have z61_ : (u59_.1 1).toInt = (u.1 1).toInt := by rw [eu59_]; rfl
      have z62_ : (u59_.1 2).toInt = (u.1 2).toInt := by rw [eu59_]; rfl
      refine okk_f (by decide) ?_
      exact okk_some (Iu59_)
  · have t63_ : ((u.1 2) - (1 : Int32)).toInt = ((u.1 2).toInt - (1 : Int)) := (oi_sub (a := (u.1 2)) (b := (1 : Int32)) rfl (by decide : (1 : Int32).toInt = 1) (by omega) (by omega))
    refine okk_t (by decide) ?_
    unfold fm_watch_20
    refine okk_t (by decide) ?_
    unfold fm_watch_71
    refine okk_f (by decide) ?_
    refine okk_f (by decide) ?_
    unfold fm_watch_94
    refine okk_t (by decide) ?_
    unfold fm_watch_113
    obtain ⟨u64_, eu64_⟩ : ∃ y, y = g_sI u 0 (1 : Int32) := ⟨_, rfl⟩
    refine okk_bs (v := ((1 : Int32), u64_)) (by rw [eu64_]; exact fm_thr_1 _ _ _) ?_
    dsimp only
    have Iu64_ : IM g u64_ := by rw [eu64_]; exact IM_ix I _ (by decide)
    have h065_ : (u64_.1 0).toInt = 1 := by rw [eu64_, rdI, if_pos rfl]; decide
    have z66_ : (u64_.1 1).toInt = (u.1 1).toInt := by rw [eu64_]; rfl
    have z67_ : (u64_.1 2).toInt = (u.1 2).toInt := by rw [eu64_]; rfl
    refine okk_f (by decide) ?_
    exact okk_some (Iu64_)
set_option maxHeartbeats 4000000 in
theorem okk_fm_state {g : Nat → Int32} {u : g_S} (I : IM g u) {p1 : Int32} {p2 : Int32} : okk (fm_state u p1 p2) (fun r => IM g r) := by
  unfold fm_state
  have z1_ := IM_s I
  refine okk_isEvent (fun b2_ => ?_) (fun b2_ => ?_)
  · have t3_ : ((u.1 2) - (1 : Int32)).toInt = ((u.1 2).toInt - (1 : Int)) := (oi_sub (a := (u.1 2)) (b := (1 : Int32)) rfl (by decide : (1 : Int32).toInt = 1) (by omega) (by omega))
    refine okk_t (by decide) ?_
    unfold fm_state_16
    try have t4_ : (0 : Int32).toInt = (0 : Int) := (by decide : (0 : Int32).toInt = 0)
    try have t5_ : (2 : Int32).toInt = (2 : Int) := (by decide : (2 : Int32).toInt = 2)
    refine okk_in (fun b6_ => ?_) (fun b6_ => ?_)
    · refine okk_t (by decide) ?_
      unfold fm_state_30
      refine okk_f (by decide) ?_
      refine okk_ck (vp_I (by omega) (by omega)) ?_
      refine okk_eq (fun c7_ c7_I => ?_) (fun c7_ c7_I => ?_)
      · unfold fm_state_59
        obtain ⟨u8_, eu8_⟩ : ∃ y, y = g_sI u 0 (3 : Int32) := ⟨_, rfl⟩
        refine okk_bs (v := ((1 : Int32), u8_)) (by rw [eu8_]; exact fm_thr_3 _) ?_
        dsimp only
        have Iu8_ : IM g u8_ := by rw [eu8_]; exact IM_ix I _ (by decide)
        have h09_ : (u8_.1 0).toInt = 3 := by rw [eu8_, rdI, if_pos rfl]; decide
        have z10_ : (u8_.1 1).toInt = (u.1 1).toInt := by rw [eu8_]; rfl
        have z11_ : (u8_.1 2).toInt = (u.1 2).toInt := by rw [eu8_]; rfl
        refine okk_f (by decide) ?_
        exact okk_some (Iu8_)
      · refine okk_ck (vp_I (by omega) (by omega)) ?_
        try have t13_ : (3 : Int32).toInt = (3 : Int) := (by decide : (3 : Int32).toInt = 3)
        refine okk_ne (fun c12_ c12_I => ?_) (fun c12_ c12_I => ?_)
        · unfold fm_state_59
          obtain ⟨u14_, eu14_⟩ : ∃ y, y = g_sI u 0 (0 : Int32) := ⟨_, rfl⟩
          refine okk_bs (v := ((0 : Int32), u14_)) (by rw [eu14_]; exact fm_thr_0 _) ?_
          dsimp only
          have Iu14_ : IM g u14_ := by rw [eu14_]; exact IM_ix I _ (by decide)
          have h015_ : (u14_.1 0).toInt = 0 := by rw [eu14_, rdI, if_pos rfl]; decide
          have z16_ : (u14_.1 1).toInt = (u.1 1).toInt := by rw [eu14_]; rfl
          have z17_ : (u14_.1 2).toInt = (u.1 2).toInt := by rw [eu14_]; rfl
          refine okk_t (by decide) ?_
          refine okk_ck (vp_I (by omega) (by omega)) ?_
          refine okk_gl (fun u418_ eu418_ => ?_)
          have Iu418_ : IM g u418_ := by rw [eu418_]; exact IM_w16 Iu14_ _ _ (Or.inr (by rw [eu14_]; exact c12_))
          have z19_ : (u418_.1 0).toInt = (u14_.1 0).toInt := by rw [eu418_]; rfl
          have z20_ : (u418_.1 1).toInt = (u14_.1 1).toInt := by rw [eu418_]; rfl
          have z21_ : (u418_.1 2).toInt = (u14_.1 2).toInt := by rw [eu418_]; rfl
          exact okk_some (Iu418_)
        · unfold fm_state_59
          obtain ⟨u22_, eu22_⟩ : ∃ y, y = g_sI u 0 (3 : Int32) := ⟨_, rfl⟩
          refine okk_bs (v := ((1 : Int32), u22_)) (by rw [eu22_]; exact fm_thr_3 _) ?_
          dsimp only
          have Iu22_ : IM g u22_ := by rw [eu22_]; exact IM_ix I _ (by decide)
          have h023_ : (u22_.1 0).toInt = 3 := by rw [eu22_, rdI, if_pos rfl]; decide
          have z24_ : (u22_.1 1).toInt = (u.1 1).toInt := by rw [eu22_]; rfl
          have z25_ : (u22_.1 2).toInt = (u.1 2).toInt := by rw [eu22_]; rfl
          refine okk_f (by decide) ?_
          exact okk_some (Iu22_)
    · refine okk_f (by decide) ?_
      unfold fm_state_30
      refine okk_f (by decide) ?_
      refine okk_ck (vp_I (by omega) (by omega)) ?_
      refine okk_eq (fun c26_ c26_I => ?_) (fun c26_ c26_I => ?_)
      · unfold fm_state_59
        obtain ⟨u27_, eu27_⟩ : ∃ y, y = g_sI u 0 (2 : Int32) := ⟨_, rfl⟩
        refine okk_bs (v := ((1 : Int32), u27_)) (by rw [eu27_]; exact fm_thr_2 _ _) ?_
        dsimp only
        have Iu27_ : IM g u27_ := by rw [eu27_]; exact IM_ix I _ (by decide)
        have h028_ : (u27_.1 0).toInt = 2 := by rw [eu27_, rdI, if_pos rfl]; decide
        have z29_ : (u27_.1 1).toInt = (u.1 1).toInt := by rw [eu27_]; rfl
        have z30_ : (u27_.1 2).toInt = (u.1 2).toInt := by rw [eu27_]; rfl
        refine okk_f (by decide) ?_
        exact okk_some (Iu27_)
      · refine okk_ck (vp_I (by omega) (by omega)) ?_
        try have t32_ : (3 : Int32).toInt = (3 : Int) := (by decide : (3 : Int32).toInt = 3)
        refine okk_ne (fun c31_ c31_I => ?_) (fun c31_ c31_I => ?_)
        · unfold fm_state_59
          obtain ⟨u33_, eu33_⟩ : ∃ y, y = g_sI u 0 (2 : Int32) := ⟨_, rfl⟩
          refine okk_bs (v := ((1 : Int32), u33_)) (by rw [eu33_]; exact fm_thr_2 _ _) ?_
          dsimp only
          have Iu33_ : IM g u33_ := by rw [eu33_]; exact IM_ix I _ (by decide)
          have h034_ : (u33_.1 0).toInt = 2 := by rw [eu33_, rdI, if_pos rfl]; decide
          have z35_ : (u33_.1 1).toInt = (u.1 1).toInt := by rw [eu33_]; rfl
          have z36_ : (u33_.1 2).toInt = (u.1 2).toInt := by rw [eu33_]; rfl
          refine okk_f (by decide) ?_
          exact okk_some (Iu33_)
        · unfold fm_state_59
          obtain ⟨u37_, eu37_⟩ : ∃ y, y = g_sI u 0 (2 : Int32) := ⟨_, rfl⟩
          refine okk_bs (v := ((1 : Int32), u37_)) (by rw [eu37_]; exact fm_thr_2 _ _) ?_
          dsimp only
          have Iu37_ : IM g u37_ := by rw [eu37_]; exact IM_ix I _ (by decide)
          have h038_ : (u37_.1 0).toInt = 2 := by rw [eu37_, rdI, if_pos rfl]; decide
          have z39_ : (u37_.1 1).toInt = (u.1 1).toInt := by rw [eu37_]; rfl
          have z40_ : (u37_.1 2).toInt = (u.1 2).toInt := by rw [eu37_]; rfl
          refine okk_f (by decide) ?_
          exact okk_some (Iu37_)
  · have t41_ : ((u.1 2) - (1 : Int32)).toInt = ((u.1 2).toInt - (1 : Int)) := (oi_sub (a := (u.1 2)) (b := (1 : Int32)) rfl (by decide : (1 : Int32).toInt = 1) (by omega) (by omega))
    refine okk_f (by decide) ?_
    unfold fm_state_16
    try have t42_ : (0 : Int32).toInt = (0 : Int) := (by decide : (0 : Int32).toInt = 0)
    try have t43_ : (2 : Int32).toInt = (2 : Int) := (by decide : (2 : Int32).toInt = 2)
    refine okk_in (fun b44_ => ?_) (fun b44_ => ?_)
    · refine okk_t (by decide) ?_
      unfold fm_state_30
      refine okk_t (by decide) ?_
      unfold fm_state_59
      obtain ⟨u45_, eu45_⟩ : ∃ y, y = g_sI u 0 (1 : Int32) := ⟨_, rfl⟩
      refine okk_bs (v := ((1 : Int32), u45_)) (by rw [eu45_]; exact fm_thr_1 _ _ _) ?_
      dsimp only
      have Iu45_ : IM g u45_ := by rw [eu45_]; exact IM_ix I _ (by decide)
      have h046_ : (u45_.1 0).toInt = 1 := by rw [eu45_, rdI, if_pos rfl]; decide
      have z47_ : (u45_.1 1).toInt = (u.1 1).toInt := by rw [eu45_]; rfl
      have z48_ : (u45_.1 2).toInt = (u.1 2).toInt := by rw [eu45_]; rfl
      refine okk_f (by decide) ?_
      exact okk_some (Iu45_)
    · refine okk_f (by decide) ?_
      unfold fm_state_30
      refine okk_t (by decide) ?_
      unfold fm_state_59
      obtain ⟨u49_, eu49_⟩ : ∃ y, y = g_sI u 0 (1 : Int32) := ⟨_, rfl⟩
      refine okk_bs (v := ((1 : Int32), u49_)) (by rw [eu49_]; exact fm_thr_1 _ _ _) ?_
      dsimp only
      have Iu49_ : IM g u49_ := by rw [eu49_]; exact IM_ix I _ (by decide)
      have h050_ : (u49_.1 0).toInt = 1 := by rw [eu49_, rdI, if_pos rfl]; decide
      have z51_ : (u49_.1 1).toInt = (u.1 1).toInt := by rw [eu49_]; rfl
      have z52_ : (u49_.1 2).toInt = (u.1 2).toInt := by rw [eu49_]; rfl
      refine okk_f (by decide) ?_
      exact okk_some (Iu49_)
end
section
set_option maxHeartbeats 4000000 in
theorem okk_fm_share {g : Nat → Int32} {u : g_S} (I : IM g u) {p1 : Int32} {p2 : Int32} : okk (fm_share u p1 p2) (fun r => IM g r.2) := by
  unfold fm_share
  have z1_ := IM_s I
  refine okk_isCall (fun b2_ => ?_) (fun b2_ => ?_)
  · have t3_ : ((u.1 1) - (1 : Int32)).toInt = ((u.1 1).toInt - (1 : Int)) := (oi_sub (a := (u.1 1)) (b := (1 : Int32)) rfl (by decide : (1 : Int32).toInt = 1) (by omega) (by omega))
    refine okk_f (by decide) ?_
    refine okk_isCall (fun b4_ => ?_) (fun b4_ => ?_)
    · refine okk_f (by decide) ?_
      refine okk_eq (fun c5_ c5_I => ?_) (fun c5_ c5_I => ?_)
      · unfold fm_share_26
        refine okk_t (by decide) ?_
        unfold fm_share_50
        refine okk_t (by decide) ?_
        unfold fm_share_79
        refine okk_f (by decide) ?_
        refine okk_f (by decide) ?_
        unfold fm_share_101
        obtain ⟨u6_, eu6_⟩ : ∃ y, y = g_sI u 0 (1 : Int32) := ⟨_, rfl⟩
        refine okk_bs (v := ((1 : Int32), u6_)) (by rw [eu6_]; exact fm_thr_1 _ _ _) ?_
        dsimp only
        have Iu6_ : IM g u6_ := by rw [eu6_]; exact IM_ix I _ (by decide)
        have h07_ : (u6_.1 0).toInt = 1 := by rw [eu6_, rdI, if_pos rfl]; decide
        have z8_ : (u6_.1 1).toInt = (u.1 1).toInt := by rw [eu6_]; rfl
        have z9_ : (u6_.1 2).toInt = (u.1 2).toInt := by rw [eu6_]; rfl
        refine okk_f (by decide) ?_
        exact okk_some (Iu6_)
      · unfold fm_share_26
        refine okk_f (by decide) ?_
        refine okk_le (fun c10_ c10_I => ?_) (fun c10_ c10_I => ?_)
        · refine okk_ck (vp_I (by omega) (by omega)) ?_
          unfold fm_share_50
          refine okk_f (by decide) ?_
          refine okk_ck (vp_I (by omega) (by omega)) ?_
          refine okk_ck (vp_I (by omega) (by omega)) ?_
          have r11_ := IM_r8 I p2.toNatClampNeg
          refine okk_bi (okk_fm_sum I (by omega) (by omega)) (fun v12_ hv12_ => ?_)
          have p13_ := hv12_
          unfold fm_share_79
          refine okk_t (by decide) ?_
          try have t15_ : (0 : Int32).toInt = (0 : Int) := (by decide : (0 : Int32).toInt = 0)
          refine okk_ne (fun c14_ c14_I => ?_) (fun c14_ c14_I => ?_)
          · unfold fm_share_101
            obtain ⟨u16_, eu16_⟩ : ∃ y, y = g_sI u 0 (0 : Int32) := ⟨_, rfl⟩
            refine okk_bs (v := ((0 : Int32), u16_)) (by rw [eu16_]; exact fm_thr_0 _) ?_
            dsimp only
            have Iu16_ : IM g u16_ := by rw [eu16_]; exact IM_ix I _ (by decide)
            have h017_ : (u16_.1 0).toInt = 0 := by rw [eu16_, rdI, if_pos rfl]; decide
            have z18_ : (u16_.1 1).toInt = (u.1 1).toInt := by rw [eu16_]; rfl
            have z19_ : (u16_.1 2).toInt = (u.1 2).toInt := by rw [eu16_]; rfl
            refine okk_t (by decide) ?_
            refine okk_ck (vp_I (by omega) (by omega)) ?_
            refine okk_ck (vp_I (by omega) (by omega)) ?_
            have z20_ := IM_s Iu16_
            refine okk_bi (okk_fm_sum Iu16_ (by omega) (by omega)) (fun v21_ hv21_ => ?_)
            have p22_ := hv21_
            refine okk_eq (fun c23_ c23_I => ?_) (fun c23_ c23_I => ?_)
            · exfalso; omega
            · exact okk_some (Iu16_)
          · unfold fm_share_101
            obtain ⟨u24_, eu24_⟩ : ∃ y, y = g_sI u 0 (2 : Int32) := ⟨_, rfl⟩
            refine okk_bs (v := ((1 : Int32), u24_)) (by rw [eu24_]; exact fm_thr_2 _ _) ?_
            dsimp only
            have Iu24_ : IM g u24_ := by rw [eu24_]; exact IM_ix I _ (by decide)
            have h025_ : (u24_.1 0).toInt = 2 := by rw [eu24_, rdI, if_pos rfl]; decide
            have z26_ : (u24_.1 1).toInt = (u.1 1).toInt := by rw [eu24_]; rfl
            have z27_ : (u24_.1 2).toInt = (u.1 2).toInt := by rw [eu24_]; rfl
            refine okk_f (by decide) ?_
            exact okk_some (Iu24_)
        · refine okk_ck (vp_I (by omega) (by omega)) ?_
          unfold fm_share_50
          refine okk_f (by decide) ?_
          refine okk_ck (vp_I (by omega) (by omega)) ?_
          refine okk_ck (vp_I (by omega) (by omega)) ?_
          have r28_ := IM_r8 I p1.toNatClampNeg
          refine okk_bi (okk_fm_sum I (by omega) (by omega)) (fun v29_ hv29_ => ?_)
          have p30_ := hv29_
          unfold fm_share_79
          refine okk_t (by decide) ?_
          try have t32_ : (0 : Int32).toInt = (0 : Int) := (by decide : (0 : Int32).toInt = 0)
          refine okk_ne (fun c31_ c31_I => ?_) (fun c31_ c31_I => ?_)
          · unfold fm_share_101
            obtain ⟨u33_, eu33_⟩ : ∃ y, y = g_sI u 0 (0 : Int32) := ⟨_, rfl⟩
            refine okk_bs (v := ((0 : Int32), u33_)) (by rw [eu33_]; exact fm_thr_0 _) ?_
            dsimp only
            have Iu33_ : IM g u33_ := by rw [eu33_]; exact IM_ix I _ (by decide)
            have h034_ : (u33_.1 0).toInt = 0 := by rw [eu33_, rdI, if_pos rfl]; decide
            have z35_ : (u33_.1 1).toInt = (u.1 1).toInt := by rw [eu33_]; rfl
            have z36_ : (u33_.1 2).toInt = (u.1 2).toInt := by rw [eu33_]; rfl
            refine okk_t (by decide) ?_
            refine okk_ck (vp_I (by omega) (by omega)) ?_
            refine okk_ck (vp_I (by omega) (by omega)) ?_
            have z37_ := IM_s Iu33_
            refine okk_bi (okk_fm_sum Iu33_ (by omega) (by omega)) (fun v38_ hv38_ => ?_)
            have p39_ := hv38_
            refine okk_eq (fun c40_ c40_I => ?_) (fun c40_ c40_I => ?_)
            · exfalso; omega
            · exact okk_some (Iu33_)
          · unfold fm_share_101
            obtain ⟨u41_, eu41_⟩ : ∃ y, y = g_sI u 0 (2 : Int32) := ⟨_, rfl⟩
            refine okk_bs (v := ((1 : Int32), u41_)) (by rw [eu41_]; exact fm_thr_2 _ _) ?_
            dsimp only
            have Iu41_ : IM g u41_ := by rw [eu41_]; exact IM_ix I _ (by decide)
            have h042_ : (u41_.1 0).toInt = 2 := by rw [eu41_, rdI, if_pos rfl]; decide
            have z43_ : (u41_.1 1).toInt = (u.1 1).toInt := by rw [eu41_]; rfl
            have z44_ : (u41_.1 2).toInt = (u.1 2).toInt := by rw [eu41_]; rfl
            refine okk_f (by decide) ?_
            exact okk_some (Iu41_)
    · refine okk_t (by decide) ?_
      unfold fm_share_26
      refine okk_t (by decide) ?_
      unfold fm_share_50
      refine okk_t (by decide) ?_
      unfold fm_share_79
      refine okk_f (by decide) ?_
      refine okk_f (by decide) ?_
      unfold fm_share_101
      obtain ⟨u45_, eu45_⟩ : ∃ y, y = g_sI u 0 (1 : Int32) := ⟨_, rfl⟩
      refine okk_bs (v := ((1 : Int32), u45_)) (by rw [eu45_]; exact fm_thr_1 _ _ _) ?_
      dsimp only
      have Iu45_ : IM g u45_ := by rw [eu45_]; exact IM_ix I _ (by decide)
      have h046_ : (u45_.1 0).toInt = 1 := by rw [eu45_, rdI, if_pos rfl]; decide
      have z47_ : (u45_.1 1).toInt = (u.1 1).toInt := by rw [eu45_]; rfl
      have z48_ : (u45_.1 2).toInt = (u.1 2).toInt := by rw [eu45_]; rfl
      refine okk_f (by decide) ?_
      exact okk_some (Iu45_)
  · have t49_ : ((u.1 1) - (1 : Int32)).toInt = ((u.1 1).toInt - (1 : Int)) := (oi_sub (a := (u.1 1)) (b := (1 : Int32)) rfl (by decide : (1 : Int32).toInt = 1) (by omega) (by omega))
    refine okk_t (by decide) ?_
    unfold fm_share_26
    refine okk_t (by decide) ?_
    unfold fm_share_50
    refine okk_t (by decide) ?_
    unfold fm_share_79
    refine okk_f (by decide) ?_
    refine okk_f (by decide) ?_
    unfold fm_share_101
    obtain ⟨u50_, eu50_⟩ : ∃ y, y = g_sI u 0 (1 : Int32) := ⟨_, rfl⟩
    refine okk_bs (v := ((1 : Int32), u50_)) (by rw [eu50_]; exact fm_thr_1 _ _ _) ?_
    dsimp only
    have Iu50_ : IM g u50_ := by rw [eu50_]; exact IM_ix I _ (by decide)
    have h051_ : (u50_.1 0).toInt = 1 := by rw [eu50_, rdI, if_pos rfl]; decide
    have z52_ : (u50_.1 1).toInt = (u.1 1).toInt := by rw [eu50_]; rfl
    have z53_ : (u50_.1 2).toInt = (u.1 2).toInt := by rw [eu50_]; rfl
    refine okk_f (by decide) ?_
    exact okk_some (Iu50_)
set_option maxHeartbeats 4000000 in
theorem okk_fm_agree {g : Nat → Int32} {u : g_S} (I : IM g u) {p1 : Int32} {p2 : Int32} : okk (fm_agree u p1 p2) (fun r => IM g r.2) := by
  unfold fm_agree
  have z1_ := IM_s I
  refine okk_isCall (fun b2_ => ?_) (fun b2_ => ?_)
  · have t3_ : ((u.1 1) - (1 : Int32)).toInt = ((u.1 1).toInt - (1 : Int)) := (oi_sub (a := (u.1 1)) (b := (1 : Int32)) rfl (by decide : (1 : Int32).toInt = 1) (by omega) (by omega))
    refine okk_f (by decide) ?_
    refine okk_isCall (fun b4_ => ?_) (fun b4_ => ?_)
    · refine okk_f (by decide) ?_
      refine okk_eq (fun c5_ c5_I => ?_) (fun c5_ c5_I => ?_)
      · unfold fm_agree_26
        refine okk_f (by decide) ?_
        unfold fm_agree_37
        obtain ⟨u6_, eu6_⟩ : ∃ y, y = g_sI u 0 (1 : Int32) := ⟨_, rfl⟩
        refine okk_bs (v := ((1 : Int32), u6_)) (by rw [eu6_]; exact fm_thr_1 _ _ _) ?_
        dsimp only
        have Iu6_ : IM g u6_ := by rw [eu6_]; exact IM_ix I _ (by decide)
        have h07_ : (u6_.1 0).toInt = 1 := by rw [eu6_, rdI, if_pos rfl]; decide
        have z8_ : (u6_.1 1).toInt = (u.1 1).toInt := by rw [eu6_]; rfl
        have z9_ : (u6_.1 2).toInt = (u.1 2).toInt := by rw [eu6_]; rfl
        refine okk_f (by decide) ?_
        exact okk_some (Iu6_)
      · unfold fm_agree_26
        refine okk_t (by decide) ?_
        unfold fm_agree_37
        obtain ⟨u10_, eu10_⟩ : ∃ y, y = g_sI u 0 (0 : Int32) := ⟨_, rfl⟩
        refine okk_bs (v := ((0 : Int32), u10_)) (by rw [eu10_]; exact fm_thr_0 _) ?_
        dsimp only
        have Iu10_ : IM g u10_ := by rw [eu10_]; exact IM_ix I _ (by decide)
        have h011_ : (u10_.1 0).toInt = 0 := by rw [eu10_, rdI, if_pos rfl]; decide
        have z12_ : (u10_.1 1).toInt = (u.1 1).toInt := by rw [eu10_]; rfl
        have z13_ : (u10_.1 2).toInt = (u.1 2).toInt := by rw [eu10_]; rfl
        refine okk_t (by decide) ?_
        refine okk_le (fun c14_ c14_I => ?_) (fun c14_ c14_I => ?_)
        · unfold fm_agree_57
          try have t16_ : ((p1 + p2) - p2).toInt = ((p1.toInt + p2.toInt) - p2.toInt) := (oi_sub (a := (p1 + p2)) (b := p2) (oi_add (a := p1) (b := p2) rfl rfl (by omega) (by omega)) rfl (by omega) (by omega))
          refine okk_gl (fun w315_ ew315_ => ?_)
          have t17_ : w315_.toInt = ((p1 + p2) - p2).toInt := by rw [ew315_]
          refine okk_ck (vp_I (by omega) (by omega)) ?_
          refine okk_ck (vp_I (by omega) (by omega)) ?_
          refine okk_ck (vp_I (by omega) (by omega)) ?_
          refine okk_ck (vp_I (by omega) (by omega)) ?_
          have r18_ := IM_r8 Iu10_ w315_.toNatClampNeg
          have r19_ : (u10_.2 8 w315_.toNatClampNeg).toInt = (u.2 8 w315_.toNatClampNeg).toInt := by rw [eu10_]; rfl
          have r20_ := IM_r8 I w315_.toNatClampNeg
          have z21_ := IM_s Iu10_
          refine okk_bi (okk_fm_meets Iu10_ (by omega) (by omega) (by omega) (by omega)) (fun v22_ hv22_ => ?_)
          have p23_ := hv22_
          exact okk_some (Iu10_)
        · unfold fm_agree_57
          try have t25_ : ((p1 + p2) - p1).toInt = ((p1.toInt + p2.toInt) - p1.toInt) := (oi_sub (a := (p1 + p2)) (b := p1) (oi_add (a := p1) (b := p2) rfl rfl (by omega) (by omega)) rfl (by omega) (by omega))
          refine okk_gl (fun w324_ ew324_ => ?_)
          have t26_ : w324_.toInt = ((p1 + p2) - p1).toInt := by rw [ew324_]
          refine okk_ck (vp_I (by omega) (by omega)) ?_
          refine okk_ck (vp_I (by omega) (by omega)) ?_
          refine okk_ck (vp_I (by omega) (by omega)) ?_
          refine okk_ck (vp_I (by omega) (by omega)) ?_
          have r27_ := IM_r8 Iu10_ w324_.toNatClampNeg
          have r28_ : (u10_.2 8 w324_.toNatClampNeg).toInt = (u.2 8 w324_.toNatClampNeg).toInt := by rw [eu10_]; rfl
          have r29_ := IM_r8 I w324_.toNatClampNeg
          have z30_ := IM_s Iu10_
          refine okk_bi (okk_fm_meets Iu10_ (by omega) (by omega) (by omega) (by omega)) (fun v31_ hv31_ => ?_)
          have p32_ := hv31_
          exact okk_some (Iu10_)
    · refine okk_t (by decide) ?_
      unfold fm_agree_26
      refine okk_f (by decide) ?_
      unfold fm_agree_37
      obtain ⟨u33_, eu33_⟩ : ∃ y, y = g_sI u 0 (1 : Int32) := ⟨_, rfl⟩
      refine okk_bs (v := ((1 : Int32), u33_)) (by rw [eu33_]; exact fm_thr_1 _ _ _) ?_
      dsimp only
      have Iu33_ : IM g u33_ := by rw [eu33_]; exact IM_ix I _ (by decide)
      have h034_ : (u33_.1 0).toInt = 1 := by rw [eu33_, rdI, if_pos rfl]; decide
      have z35_ : (u33_.1 1).toInt = (u.1 1).toInt := by rw [eu33_]; rfl
      have z36_ : (u33_.1 2).toInt = (u.1 2).toInt := by rw [eu33_]; rfl
      refine okk_f (by decide) ?_
      exact okk_some (Iu33_)
  · have t37_ : ((u.1 1) - (1 : Int32)).toInt = ((u.1 1).toInt - (1 : Int)) := (oi_sub (a := (u.1 1)) (b := (1 : Int32)) rfl (by decide : (1 : Int32).toInt = 1) (by omega) (by omega))
    refine okk_t (by decide) ?_
    unfold fm_agree_26
    refine okk_f (by decide) ?_
    unfold fm_agree_37
    obtain ⟨u38_, eu38_⟩ : ∃ y, y = g_sI u 0 (1 : Int32) := ⟨_, rfl⟩
    refine okk_bs (v := ((1 : Int32), u38_)) (by rw [eu38_]; exact fm_thr_1 _ _ _) ?_
    dsimp only
    have Iu38_ : IM g u38_ := by rw [eu38_]; exact IM_ix I _ (by decide)
    have h039_ : (u38_.1 0).toInt = 1 := by rw [eu38_, rdI, if_pos rfl]; decide
    have z40_ : (u38_.1 1).toInt = (u.1 1).toInt := by rw [eu38_]; rfl
    have z41_ : (u38_.1 2).toInt = (u.1 2).toInt := by rw [eu38_]; rfl
    refine okk_f (by decide) ?_
    exact okk_some (Iu38_)
set_option maxHeartbeats 4000000 in
theorem okk_fm_callAt {g : Nat → Int32} {u : g_S} (I : IM g u) {p1 : Int32} {p2 : Int32} : okk (fm_callAt u p1 p2) (fun r => IM g r.2) := by
  unfold fm_callAt
  have z1_ := IM_s I
  refine okk_isCall (fun b2_ => ?_) (fun b2_ => ?_)
  · have t3_ : ((u.1 1) - (1 : Int32)).toInt = ((u.1 1).toInt - (1 : Int)) := (oi_sub (a := (u.1 1)) (b := (1 : Int32)) rfl (by decide : (1 : Int32).toInt = 1) (by omega) (by omega))
    refine okk_f (by decide) ?_
    try have t4_ : (0 : Int32).toInt = (0 : Int) := (by decide : (0 : Int32).toInt = 0)
    try have t5_ : (4 : Int32).toInt = (4 : Int) := (by decide : (4 : Int32).toInt = 4)
    refine okk_in (fun b6_ => ?_) (fun b6_ => ?_)
    · refine okk_t (by decide) ?_
      unfold fm_callAt_23
      obtain ⟨u7_, eu7_⟩ : ∃ y, y = g_sI u 0 (0 : Int32) := ⟨_, rfl⟩
      refine okk_bs (v := ((0 : Int32), u7_)) (by rw [eu7_]; exact fm_thr_0 _) ?_
      dsimp only
      have Iu7_ : IM g u7_ := by rw [eu7_]; exact IM_ix I _ (by decide)
      have h08_ : (u7_.1 0).toInt = 0 := by rw [eu7_, rdI, if_pos rfl]; decide
      have z9_ : (u7_.1 1).toInt = (u.1 1).toInt := by rw [eu7_]; rfl
      have z10_ : (u7_.1 2).toInt = (u.1 2).toInt := by rw [eu7_]; rfl
      refine okk_t (by decide) ?_
      refine okk_ne (fun c11_ c11_I => ?_) (fun c11_ c11_I => ?_)
      · try have t13_ : (1 : Int32).toInt = (1 : Int) := (by decide : (1 : Int32).toInt = 1)
        refine okk_ne (fun c12_ c12_I => ?_) (fun c12_ c12_I => ?_)
        · try have t15_ : (2 : Int32).toInt = (2 : Int) := (by decide : (2 : Int32).toInt = 2)
          refine okk_ne (fun c14_ c14_I => ?_) (fun c14_ c14_I => ?_)
          · try have t17_ : (3 : Int32).toInt = (3 : Int) := (by decide : (3 : Int32).toInt = 3)
            refine okk_ne (fun c16_ c16_I => ?_) (fun c16_ c16_I => ?_)
            · refine okk_ck (vp_I (by omega) (by omega)) ?_
              exact okk_some (Iu7_)
            · refine okk_ck (vp_I (by omega) (by omega)) ?_
              exact okk_some (Iu7_)
          · refine okk_ck (vp_I (by omega) (by omega)) ?_
            exact okk_some (Iu7_)
        · refine okk_ck (vp_I (by omega) (by omega)) ?_
          exact okk_some (Iu7_)
      · refine okk_ck (vp_I (by omega) (by omega)) ?_
        exact okk_some (Iu7_)
    · refine okk_f (by decide) ?_
      unfold fm_callAt_23
      obtain ⟨u18_, eu18_⟩ : ∃ y, y = g_sI u 0 (1 : Int32) := ⟨_, rfl⟩
      refine okk_bs (v := ((1 : Int32), u18_)) (by rw [eu18_]; exact fm_thr_1 _ _ _) ?_
      dsimp only
      have Iu18_ : IM g u18_ := by rw [eu18_]; exact IM_ix I _ (by decide)
      have h019_ : (u18_.1 0).toInt = 1 := by rw [eu18_, rdI, if_pos rfl]; decide
      have z20_ : (u18_.1 1).toInt = (u.1 1).toInt := by rw [eu18_]; rfl
      have z21_ : (u18_.1 2).toInt = (u.1 2).toInt := by rw [eu18_]; rfl
      refine okk_f (by decide) ?_
      exact okk_some (Iu18_)
  · have t22_ : ((u.1 1) - (1 : Int32)).toInt = ((u.1 1).toInt - (1 : Int)) := (oi_sub (a := (u.1 1)) (b := (1 : Int32)) rfl (by decide : (1 : Int32).toInt = 1) (by omega) (by omega))
    refine okk_t (by decide) ?_
    unfold fm_callAt_23
    obtain ⟨u23_, eu23_⟩ : ∃ y, y = g_sI u 0 (1 : Int32) := ⟨_, rfl⟩
    refine okk_bs (v := ((1 : Int32), u23_)) (by rw [eu23_]; exact fm_thr_1 _ _ _) ?_
    dsimp only
    have Iu23_ : IM g u23_ := by rw [eu23_]; exact IM_ix I _ (by decide)
    have h024_ : (u23_.1 0).toInt = 1 := by rw [eu23_, rdI, if_pos rfl]; decide
    have z25_ : (u23_.1 1).toInt = (u.1 1).toInt := by rw [eu23_]; rfl
    have z26_ : (u23_.1 2).toInt = (u.1 2).toInt := by rw [eu23_]; rfl
    refine okk_f (by decide) ?_
    exact okk_some (Iu23_)
set_option maxHeartbeats 4000000 in
theorem okk_fm_eventAt {g : Nat → Int32} {u : g_S} (I : IM g u) {p1 : Int32} {p2 : Int32} : okk (fm_eventAt u p1 p2) (fun r => IM g r.2) := by
  unfold fm_eventAt
  have z1_ := IM_s I
  refine okk_isEvent (fun b2_ => ?_) (fun b2_ => ?_)
  · have t3_ : ((u.1 2) - (1 : Int32)).toInt = ((u.1 2).toInt - (1 : Int)) := (oi_sub (a := (u.1 2)) (b := (1 : Int32)) rfl (by decide : (1 : Int32).toInt = 1) (by omega) (by omega))
    refine okk_f (by decide) ?_
    try have t4_ : (0 : Int32).toInt = (0 : Int) := (by decide : (0 : Int32).toInt = 0)
    try have t5_ : (6 : Int32).toInt = (6 : Int) := (by decide : (6 : Int32).toInt = 6)
    refine okk_in (fun b6_ => ?_) (fun b6_ => ?_)
    · refine okk_t (by decide) ?_
      unfold fm_eventAt_24
      obtain ⟨u7_, eu7_⟩ : ∃ y, y = g_sI u 0 (0 : Int32) := ⟨_, rfl⟩
      refine okk_bs (v := ((0 : Int32), u7_)) (by rw [eu7_]; exact fm_thr_0 _) ?_
      dsimp only
      have Iu7_ : IM g u7_ := by rw [eu7_]; exact IM_ix I _ (by decide)
      have h08_ : (u7_.1 0).toInt = 0 := by rw [eu7_, rdI, if_pos rfl]; decide
      have z9_ : (u7_.1 1).toInt = (u.1 1).toInt := by rw [eu7_]; rfl
      have z10_ : (u7_.1 2).toInt = (u.1 2).toInt := by rw [eu7_]; rfl
      refine okk_t (by decide) ?_
      have z11_ := IM_s Iu7_
      refine okk_bi (okk_fm_firstOf Iu7_) (fun v12_ hv12_ => ?_)
      have p13_ := hv12_
      refine okk_eq (fun c14_ c14_I => ?_) (fun c14_ c14_I => ?_)
      · refine okk_ck (vp_I (by omega) (by omega)) ?_
        exact okk_some (Iu7_)
      · try have t16_ : (1 : Int32).toInt = (1 : Int) := (by decide : (1 : Int32).toInt = 1)
        refine okk_eq (fun c15_ c15_I => ?_) (fun c15_ c15_I => ?_)
        · refine okk_bi (okk_fm_size Iu7_) (fun v17_ hv17_ => ?_)
          have p18_ := hv17_
          exact okk_some (Iu7_)
        · try have t20_ : (2 : Int32).toInt = (2 : Int) := (by decide : (2 : Int32).toInt = 2)
          refine okk_eq (fun c19_ c19_I => ?_) (fun c19_ c19_I => ?_)
          · refine okk_le (fun c21_ c21_I => ?_) (fun c21_ c21_I => ?_)
            · refine okk_ck (vp_I (by omega) (by omega)) ?_
              exact okk_some (Iu7_)
            · exact okk_some (Iu7_)
          · try have t23_ : (3 : Int32).toInt = (3 : Int) := (by decide : (3 : Int32).toInt = 3)
            refine okk_eq (fun c22_ c22_I => ?_) (fun c22_ c22_I => ?_)
            · refine okk_bi (okk_fm_weightOf Iu7_) (fun v24_ hv24_ => ?_)
              have p25_ := hv24_
              exact okk_some (Iu7_)
            · try have t27_ : (4 : Int32).toInt = (4 : Int) := (by decide : (4 : Int32).toInt = 4)
              refine okk_eq (fun c26_ c26_I => ?_) (fun c26_ c26_I => ?_)
              · refine okk_bi (okk_fm_placeOf Iu7_) (fun v28_ hv28_ => ?_)
                have p29_ := hv28_
                exact okk_some (Iu7_)
              · try have t31_ : (5 : Int32).toInt = (5 : Int) := (by decide : (5 : Int32).toInt = 5)
                refine okk_eq (fun c30_ c30_I => ?_) (fun c30_ c30_I => ?_)
                · exact okk_some (Iu7_)
                · refine okk_bi (okk_fm_latestOf Iu7_) (fun v32_ hv32_ => ?_)
                  have p33_ := hv32_
                  exact okk_some (Iu7_)
    · refine okk_f (by decide) ?_
      unfold fm_eventAt_24
      obtain ⟨u34_, eu34_⟩ : ∃ y, y = g_sI u 0 (1 : Int32) := ⟨_, rfl⟩
      refine okk_bs (v := ((1 : Int32), u34_)) (by rw [eu34_]; exact fm_thr_1 _ _ _) ?_
      dsimp only
      have Iu34_ : IM g u34_ := by rw [eu34_]; exact IM_ix I _ (by decide)
      have h035_ : (u34_.1 0).toInt = 1 := by rw [eu34_, rdI, if_pos rfl]; decide
      have z36_ : (u34_.1 1).toInt = (u.1 1).toInt := by rw [eu34_]; rfl
      have z37_ : (u34_.1 2).toInt = (u.1 2).toInt := by rw [eu34_]; rfl
      refine okk_f (by decide) ?_
      exact okk_some (Iu34_)
  · have t38_ : ((u.1 2) - (1 : Int32)).toInt = ((u.1 2).toInt - (1 : Int)) := (oi_sub (a := (u.1 2)) (b := (1 : Int32)) rfl (by decide : (1 : Int32).toInt = 1) (by omega) (by omega))
    refine okk_t (by decide) ?_
    unfold fm_eventAt_24
    obtain ⟨u39_, eu39_⟩ : ∃ y, y = g_sI u 0 (1 : Int32) := ⟨_, rfl⟩
    refine okk_bs (v := ((1 : Int32), u39_)) (by rw [eu39_]; exact fm_thr_1 _ _ _) ?_
    dsimp only
    have Iu39_ : IM g u39_ := by rw [eu39_]; exact IM_ix I _ (by decide)
    have h040_ : (u39_.1 0).toInt = 1 := by rw [eu39_, rdI, if_pos rfl]; decide
    have z41_ : (u39_.1 1).toInt = (u.1 1).toInt := by rw [eu39_]; rfl
    have z42_ : (u39_.1 2).toInt = (u.1 2).toInt := by rw [eu39_]; rfl
    refine okk_f (by decide) ?_
    exact okk_some (Iu39_)
end
section
set_option maxHeartbeats 4000000 in
theorem okk_fm_member_55 {g : Nat → Int32} : ∀ (n : Nat) (u : g_S) (x1 : Int32) (x4 : Int32) (x5 : Int32), IM g u → 0 ≤ x5.toInt → x5.toInt ≤ 120 → 121 ≤ (n : Int) + x5.toInt → okk (fm_member_55 n u x1 x4 x5) (fun r => IM g r.2) := by
  intro n
  induction n with
  | zero =>
    intro u x1 x4 x5 I h0 h1 hf
    exfalso; omega
  | succ n ih =>
    intro u x1 x4 x5 I h0 h1 hf
    rw [fm_member_55_s]
    have z1_ := IM_s I
    refine okk_le (fun c2_ c2_I => ?_) (fun c2_ c2_I => ?_)
    · exact okk_some (I)
    · refine okk_ck (vp_I (by omega) (by omega)) ?_
      have r4_ := IM_r12 I x5.toNatClampNeg
      refine okk_ne (fun c3_ c3_I => ?_) (fun c3_ c3_I => ?_)
      · refine okk_ck (vp_I (by omega) (by omega)) ?_
        refine okk_ne (fun c5_ c5_I => ?_) (fun c5_ c5_I => ?_)
        · try have t7_ : (x4 - (0 : Int32)).toInt = (x4.toInt - (0 : Int)) := (oi_sub (a := x4) (b := (0 : Int32)) rfl (by decide : (0 : Int32).toInt = 0) (by omega) (by omega))
          refine okk_gl (fun w36_ ew36_ => ?_)
          have t8_ : w36_.toInt = (x4 - (0 : Int32)).toInt := by rw [ew36_]
          have t9_ : (x5 + (1 : Int32)).toInt = (x5.toInt + (1 : Int)) := (oi_add (a := x5) (b := (1 : Int32)) rfl (by decide : (1 : Int32).toInt = 1) (by omega) (by omega))
          exact ih u x1 w36_ (x5 + (1 : Int32)) I (by omega) (by omega) (by omega)
        · try have t11_ : (x4 - (1 : Int32)).toInt = (x4.toInt - (1 : Int)) := (oi_sub (a := x4) (b := (1 : Int32)) rfl (by decide : (1 : Int32).toInt = 1) (by omega) (by omega))
          refine okk_gl (fun w410_ ew410_ => ?_)
          have t12_ : w410_.toInt = (x4 - (1 : Int32)).toInt := by rw [ew410_]
          have t13_ : (x5 + (1 : Int32)).toInt = (x5.toInt + (1 : Int)) := (oi_add (a := x5) (b := (1 : Int32)) rfl (by decide : (1 : Int32).toInt = 1) (by omega) (by omega))
          exact ih u x1 w410_ (x5 + (1 : Int32)) I (by omega) (by omega) (by omega)
      · try have t15_ : (0 : Int32).toInt = (0 : Int) := (by decide : (0 : Int32).toInt = 0)
        refine okk_ne (fun c14_ c14_I => ?_) (fun c14_ c14_I => ?_)
        · refine okk_ck (vp_I (by omega) (by omega)) ?_
          refine okk_ne (fun c16_ c16_I => ?_) (fun c16_ c16_I => ?_)
          · try have t18_ : (x4 - (0 : Int32)).toInt = (x4.toInt - (0 : Int)) := (oi_sub (a := x4) (b := (0 : Int32)) rfl (by decide : (0 : Int32).toInt = 0) (by omega) (by omega))
            refine okk_gl (fun w517_ ew517_ => ?_)
            have t19_ : w517_.toInt = (x4 - (0 : Int32)).toInt := by rw [ew517_]
            have t20_ : (x5 + (1 : Int32)).toInt = (x5.toInt + (1 : Int)) := (oi_add (a := x5) (b := (1 : Int32)) rfl (by decide : (1 : Int32).toInt = 1) (by omega) (by omega))
            exact ih u x1 w517_ (x5 + (1 : Int32)) I (by omega) (by omega) (by omega)
          · try have t22_ : (x4 - (1 : Int32)).toInt = (x4.toInt - (1 : Int)) := (oi_sub (a := x4) (b := (1 : Int32)) rfl (by decide : (1 : Int32).toInt = 1) (by omega) (by omega))
            refine okk_gl (fun w621_ ew621_ => ?_)
            have t23_ : w621_.toInt = (x4 - (1 : Int32)).toInt := by rw [ew621_]
            have t24_ : (x5 + (1 : Int32)).toInt = (x5.toInt + (1 : Int)) := (oi_add (a := x5) (b := (1 : Int32)) rfl (by decide : (1 : Int32).toInt = 1) (by omega) (by omega))
            exact ih u x1 w621_ (x5 + (1 : Int32)) I (by omega) (by omega) (by omega)
        · exact okk_some (I)
set_option maxHeartbeats 4000000 in
theorem okk_fm_member {g : Nat → Int32} {u : g_S} (I : IM g u) {p1 : Int32} {p2 : Int32} : okk (fm_member u p1 p2) (fun r => IM g r.2) := by
  unfold fm_member
  have z1_ := IM_s I
  refine okk_isEvent (fun b2_ => ?_) (fun b2_ => ?_)
  · have t3_ : ((u.1 2) - (1 : Int32)).toInt = ((u.1 2).toInt - (1 : Int)) := (oi_sub (a := (u.1 2)) (b := (1 : Int32)) rfl (by decide : (1 : Int32).toInt = 1) (by omega) (by omega))
    refine okk_t (by decide) ?_
    unfold fm_member_16
    refine okk_f (by decide) ?_
    refine okk_bi (okk_fm_size I) (fun v4_ hv4_ => ?_)
    have p5_ := hv4_
    try have t6_ : (0 : Int32).toInt = (0 : Int) := (by decide : (0 : Int32).toInt = 0)
    try have t7_ : (v4_ - (1 : Int32)).toInt = (v4_.toInt - (1 : Int)) := (oi_sub (a := v4_) (b := (1 : Int32)) rfl (by decide : (1 : Int32).toInt = 1) (by omega) (by omega))
    refine okk_in (fun b8_ => ?_) (fun b8_ => ?_)
    · refine okk_t (by decide) ?_
      unfold fm_member_40
      obtain ⟨u9_, eu9_⟩ : ∃ y, y = g_sI u 0 (0 : Int32) := ⟨_, rfl⟩
      refine okk_bs (v := ((0 : Int32), u9_)) (by rw [eu9_]; exact fm_thr_0 _) ?_
      dsimp only
      have Iu9_ : IM g u9_ := by rw [eu9_]; exact IM_ix I _ (by decide)
      have h010_ : (u9_.1 0).toInt = 0 := by rw [eu9_, rdI, if_pos rfl]; decide
      have z11_ : (u9_.1 1).toInt = (u.1 1).toInt := by rw [eu9_]; rfl
      have z12_ : (u9_.1 2).toInt = (u.1 2).toInt := by rw [eu9_]; rfl
      refine okk_t (by decide) ?_
      have z13_ := IM_s Iu9_
      exact okk_fm_member_55 200 u9_ p1 p2 (0 : Int32) Iu9_ (by omega) (by omega) (by omega)
    · refine okk_f (by decide) ?_
      unfold fm_member_40
      obtain ⟨u14_, eu14_⟩ : ∃ y, y = g_sI u 0 (2 : Int32) := ⟨_, rfl⟩
      refine okk_bs (v := ((1 : Int32), u14_)) (by rw [eu14_]; exact fm_thr_2 _ _) ?_
      dsimp only
      have Iu14_ : IM g u14_ := by rw [eu14_]; exact IM_ix I _ (by decide)
      have h015_ : (u14_.1 0).toInt = 2 := by rw [eu14_, rdI, if_pos rfl]; decide
      have z16_ : (u14_.1 1).toInt = (u.1 1).toInt := by rw [eu14_]; rfl
      have z17_ : (u14_.1 2).toInt = (u.1 2).toInt := by rw [eu14_]; rfl
      refine okk_f (by decide) ?_
      exact okk_some (Iu14_)
  · have t18_ : ((u.1 2) - (1 : Int32)).toInt = ((u.1 2).toInt - (1 : Int)) := (oi_sub (a := (u.1 2)) (b := (1 : Int32)) rfl (by decide : (1 : Int32).toInt = 1) (by omega) (by omega))
    refine okk_f (by decide) ?_
    unfold fm_member_16
    refine okk_t (by decide) ?_
    unfold fm_member_40
    obtain ⟨u19_, eu19_⟩ : ∃ y, y = g_sI u 0 (1 : Int32) := ⟨_, rfl⟩
    refine okk_bs (v := ((1 : Int32), u19_)) (by rw [eu19_]; exact fm_thr_1 _ _ _) ?_
    dsimp only
    have Iu19_ : IM g u19_ := by rw [eu19_]; exact IM_ix I _ (by decide)
    have h020_ : (u19_.1 0).toInt = 1 := by rw [eu19_, rdI, if_pos rfl]; decide
    have z21_ : (u19_.1 1).toInt = (u.1 1).toInt := by rw [eu19_]; rfl
    have z22_ : (u19_.1 2).toInt = (u.1 2).toInt := by rw [eu19_]; rfl
    refine okk_f (by decide) ?_
    exact okk_some (Iu19_)
set_option maxHeartbeats 4000000 in
theorem okk_fm_count_88 {g : Nat → Int32} : ∀ (n : Nat) (u : g_S) (x1 : Int32) (x2 : Int32) (x3 : Int32), IM g u → 0 ≤ x3.toInt → x3.toInt ≤ 120 → 121 ≤ (n : Int) + x3.toInt → okk (fm_count_88 n u x1 x2 x3) (fun r => IM g r.2) := by
  intro n
  induction n with
  | zero =>
    intro u x1 x2 x3 I h0 h1 hf
    exfalso; omega
  | succ n ih =>
    intro u x1 x2 x3 I h0 h1 hf
    rw [fm_count_88_s]
    have z1_ := IM_s I
    refine okk_le (fun c2_ c2_I => ?_) (fun c2_ c2_I => ?_)
    · exact okk_some (I)
    · try have t4_ : (3 : Int32).toInt = (3 : Int) := (by decide : (3 : Int32).toInt = 3)
      refine okk_ne (fun c3_ c3_I => ?_) (fun c3_ c3_I => ?_)
      · exact okk_some (I)
      · refine okk_bi (okk_fm_isHoax I (by omega) (by omega)) (fun v5_ hv5_ => ?_)
        have p6_ := hv5_
        try have t8_ : (0 : Int32).toInt = (0 : Int) := (by decide : (0 : Int32).toInt = 0)
        refine okk_eq (fun c7_ c7_I => ?_) (fun c7_ c7_I => ?_)
        · try have t10_ : (x2 + (0 : Int32)).toInt = (x2.toInt + (0 : Int)) := (oi_add (a := x2) (b := (0 : Int32)) rfl (by decide : (0 : Int32).toInt = 0) (by omega) (by omega))
          refine okk_gl (fun w49_ ew49_ => ?_)
          have t11_ : w49_.toInt = (x2 + (0 : Int32)).toInt := by rw [ew49_]
          have t12_ : (x3 + (1 : Int32)).toInt = (x3.toInt + (1 : Int)) := (oi_add (a := x3) (b := (1 : Int32)) rfl (by decide : (1 : Int32).toInt = 1) (by omega) (by omega))
          exact ih u x1 w49_ (x3 + (1 : Int32)) I (by omega) (by omega) (by omega)
        · try have t14_ : (x2 + (1 : Int32)).toInt = (x2.toInt + (1 : Int)) := (oi_add (a := x2) (b := (1 : Int32)) rfl (by decide : (1 : Int32).toInt = 1) (by omega) (by omega))
          refine okk_gl (fun w513_ ew513_ => ?_)
          have t15_ : w513_.toInt = (x2 + (1 : Int32)).toInt := by rw [ew513_]
          have t16_ : (x3 + (1 : Int32)).toInt = (x3.toInt + (1 : Int)) := (oi_add (a := x3) (b := (1 : Int32)) rfl (by decide : (1 : Int32).toInt = 1) (by omega) (by omega))
          exact ih u x1 w513_ (x3 + (1 : Int32)) I (by omega) (by omega) (by omega)
set_option maxHeartbeats 4000000 in
theorem okk_fm_count_50 {g : Nat → Int32} : ∀ (n : Nat) (u : g_S) (x1 : Int32) (x2 : Int32) (x3 : Int32), IM g u → 0 ≤ x3.toInt → x3.toInt ≤ 60 → 61 ≤ (n : Int) + x3.toInt → okk (fm_count_50 n u x1 x2 x3) (fun r => IM g r.2) := by
  intro n
  induction n with
  | zero =>
    intro u x1 x2 x3 I h0 h1 hf
    exfalso; omega
  | succ n ih =>
    intro u x1 x2 x3 I h0 h1 hf
    rw [fm_count_50_s]
    have z1_ := IM_s I
    refine okk_le (fun c2_ c2_I => ?_) (fun c2_ c2_I => ?_)
    · have t3_ : (0 : Int32).toInt = (0 : Int) := (by decide : (0 : Int32).toInt = 0)
      exact okk_fm_count_88 200 u x1 x2 (0 : Int32) I (by omega) (by omega) (by omega)
    · try have t5_ : (2 : Int32).toInt = (2 : Int) := (by decide : (2 : Int32).toInt = 2)
      refine okk_ne (fun c4_ c4_I => ?_) (fun c4_ c4_I => ?_)
      · have t6_ : (0 : Int32).toInt = (0 : Int) := (by decide : (0 : Int32).toInt = 0)
        exact okk_fm_count_88 200 u x1 x2 (0 : Int32) I (by omega) (by omega) (by omega)
      · refine okk_ck (vp_I (by omega) (by omega)) ?_
        try have t8_ : (0 : Int32).toInt = (0 : Int) := (by decide : (0 : Int32).toInt = 0)
        refine okk_ne (fun c7_ c7_I => ?_) (fun c7_ c7_I => ?_)
        · try have t10_ : (x2 + (0 : Int32)).toInt = (x2.toInt + (0 : Int)) := (oi_add (a := x2) (b := (0 : Int32)) rfl (by decide : (0 : Int32).toInt = 0) (by omega) (by omega))
          refine okk_gl (fun w69_ ew69_ => ?_)
          have t11_ : w69_.toInt = (x2 + (0 : Int32)).toInt := by rw [ew69_]
          have t12_ : (x3 + (1 : Int32)).toInt = (x3.toInt + (1 : Int)) := (oi_add (a := x3) (b := (1 : Int32)) rfl (by decide : (1 : Int32).toInt = 1) (by omega) (by omega))
          exact ih u x1 w69_ (x3 + (1 : Int32)) I (by omega) (by omega) (by omega)
        · try have t14_ : (x2 + (1 : Int32)).toInt = (x2.toInt + (1 : Int)) := (oi_add (a := x2) (b := (1 : Int32)) rfl (by decide : (1 : Int32).toInt = 1) (by omega) (by omega))
          refine okk_gl (fun w713_ ew713_ => ?_)
          have t15_ : w713_.toInt = (x2 + (1 : Int32)).toInt := by rw [ew713_]
          have t16_ : (x3 + (1 : Int32)).toInt = (x3.toInt + (1 : Int)) := (oi_add (a := x3) (b := (1 : Int32)) rfl (by decide : (1 : Int32).toInt = 1) (by omega) (by omega))
          exact ih u x1 w713_ (x3 + (1 : Int32)) I (by omega) (by omega) (by omega)
set_option maxHeartbeats 4000000 in
theorem okk_fm_count {g : Nat → Int32} {u : g_S} (I : IM g u) {p1 : Int32} : okk (fm_count u p1) (fun r => IM g r.2) := by
  unfold fm_count
  have z1_ := IM_s I
  try have t2_ : (0 : Int32).toInt = (0 : Int) := (by decide : (0 : Int32).toInt = 0)
  try have t3_ : (3 : Int32).toInt = (3 : Int) := (by decide : (3 : Int32).toInt = 3)
  refine okk_in (fun b4_ => ?_) (fun b4_ => ?_)
  · refine okk_t (by decide) ?_
    unfold fm_count_15
    obtain ⟨u5_, eu5_⟩ : ∃ y, y = g_sI u 0 (0 : Int32) := ⟨_, rfl⟩
    refine okk_bs (v := ((0 : Int32), u5_)) (by rw [eu5_]; exact fm_thr_0 _) ?_
    dsimp only
    have Iu5_ : IM g u5_ := by rw [eu5_]; exact IM_ix I _ (by decide)
    have h06_ : (u5_.1 0).toInt = 0 := by rw [eu5_, rdI, if_pos rfl]; decide
    have z7_ : (u5_.1 1).toInt = (u.1 1).toInt := by rw [eu5_]; rfl
    have z8_ : (u5_.1 2).toInt = (u.1 2).toInt := by rw [eu5_]; rfl
    refine okk_t (by decide) ?_
    try have t10_ : (2 : Int32).toInt = (2 : Int) := (by decide : (2 : Int32).toInt = 2)
    refine okk_le (fun c9_ c9_I => ?_) (fun c9_ c9_I => ?_)
    · have z11_ := IM_s Iu5_
      exact okk_fm_count_50 200 u5_ p1 (0 : Int32) (0 : Int32) Iu5_ (by omega) (by omega) (by omega)
    · refine okk_ne (fun c12_ c12_I => ?_) (fun c12_ c12_I => ?_)
      · exact okk_some (Iu5_)
      · exact okk_some (Iu5_)
  · refine okk_f (by decide) ?_
    unfold fm_count_15
    obtain ⟨u13_, eu13_⟩ : ∃ y, y = g_sI u 0 (1 : Int32) := ⟨_, rfl⟩
    refine okk_bs (v := ((1 : Int32), u13_)) (by rw [eu13_]; exact fm_thr_1 _ _ _) ?_
    dsimp only
    have Iu13_ : IM g u13_ := by rw [eu13_]; exact IM_ix I _ (by decide)
    have h014_ : (u13_.1 0).toInt = 1 := by rw [eu13_, rdI, if_pos rfl]; decide
    have z15_ : (u13_.1 1).toInt = (u.1 1).toInt := by rw [eu13_]; rfl
    have z16_ : (u13_.1 2).toInt = (u.1 2).toInt := by rw [eu13_]; rfl
    refine okk_f (by decide) ?_
    exact okk_some (Iu13_)
end
section
section HN2
variable {g : Nat → Int32} {u : g_S}
theorem okk_fm_onStretch_3 (I : IM g u) : ∀ (n : Nat) (x1 x2 x3 x4 : Int32), 0 ≤ x4.toInt → x4.toInt ≤ 60 → 61 ≤ (n : Int) + x4.toInt → okk (fm_onStretch_3 u n x1 x2 x3 x4) (fun r => (-1 ≤ r.toInt ∧ r.toInt < (u.1 1).toInt)) := by
  have z0 : (0 : Int32).toInt = 0 := by decide
  have zm : (-1 : Int32).toInt = -1 := by decide
  have z := IM_s I
  intro n
  induction n with
  | zero =>
    intro x1 x2 x3 x4 h0 h1 hf
    exfalso; omega
  | succ n ih =>
    intro x1 x2 x3 x4 h0 h1 hf
    rw [fm_onStretch_3_s]
    refine okk_le (fun c cI => ?_) (fun c cI => ?_)
    · exact okk_some ⟨by omega, by omega⟩
    · have t : (x4 + (1 : Int32)).toInt = x4.toInt + 1 := oi_add rfl (by decide) (by omega) (by omega)
      have hrec := ih x1 x2 x3 (x4 + (1 : Int32)) (by omega) (by omega) (by omega)
      refine okk_ck (vp_I (by omega) (by omega)) ?_
      refine okk_ne (fun d dI => okk_t (by decide) hrec) (fun d dI => ?_)
      refine okk_ck (vp_I (by omega) (by omega)) ?_
      have w := IM_r17 I x4.toNatClampNeg
      refine okk_lt (fun f fI => okk_t (by decide) hrec) (fun f fI => ?_)
      have ho := okk_firstO I (e := x4) (by omega) (by omega) (by rw [d]; decide)
      refine okk_bi ho (fun v hv => ?_)
      obtain ⟨b1, b2, b3, b4⟩ := hv
      refine okk_ck (vp_I (by omega) (by omega)) ?_
      refine okk_ne (fun _ _ => okk_t (by decide) hrec) (fun _ _ => ?_)
      refine okk_f (by decide) ?_
      refine okk_bi (okk_fm_isOn I (by omega) (by omega) (by omega)) (fun v8 _ => ?_)
      refine okk_eq (fun _ _ => hrec) (fun _ _ => ?_)
      refine okk_bi ho (fun v9 hv9 => ?_)
      exact okk_some ⟨by have := hv9.1; omega, hv9.2.1⟩
theorem okk_fm_onStretch (I : IM g u) {p1 p2 p3 : Int32} : okk (fm_onStretch u p1 p2 p3) (fun r => (-1 ≤ r.toInt ∧ r.toInt < (u.1 1).toInt)) := by
  have z0 : (0 : Int32).toInt = 0 := by decide
  unfold fm_onStretch
  exact okk_fm_onStretch_3 I 200 p1 p2 p3 (0 : Int32) (by omega) (by omega) (by omega)
theorem fm_new_eq (u : g_S) (h0 : 0 ≤ (u.1 2).toInt) (h1 : (u.1 2).toInt ≤ 59) : fm_newEvent u = some (((u.1 2) + (1 : Int32)) - (1 : Int32), g_sI (g_sA (g_sA u 16 (u.1 2) (0 : Int32)) 17 (u.1 2) (-1 : Int32)) 2 ((u.1 2) + (1 : Int32))) := by
  unfold fm_newEvent
  rw [ck_in (i := u.1 2) (n := 60) (vp_I (by omega) (by omega))]
  show ck (u.1 2) 60 _ = _
  rw [ck_in (i := u.1 2) (n := 60) (vp_I (by omega) (by omega))]
  rfl
theorem IM_new (I : IM g u) {c v2 vE v1 : Int32} (hc : c.toInt = (u.1 1).toInt) (h1 : (u.1 1).toInt ≤ 119) (h2 : (u.1 2).toInt ≤ 59) (hr : (u.2 13 c.toNatClampNeg).toInt < 0) (e2 : v2.toInt = (u.1 2).toInt + 1) (eE : vE.toInt = (u.1 2).toInt) (e1 : v1.toInt = (u.1 1).toInt + 1) :
    IM g (g_sI (g_sA (g_sI (g_sA (g_sA u 16 (u.1 2) (0 : Int32)) 17 (u.1 2) (-1 : Int32)) 2 v2) 12 c vE) 1 v1) := by
  have hs := IM_s I
  have hcl : (c.toNatClampNeg : Int) = c.toInt := cl_I (by omega)
  have hel : ((u.1 2).toNatClampNeg : Int) = (u.1 2).toInt := cl_I (by omega)
  have I1 : IM g (g_sA u 16 (u.1 2) (0 : Int32)) := IM_w16b I _ _ (by omega)
  have I2 : IM g (g_sA (g_sA u 16 (u.1 2) (0 : Int32)) 17 (u.1 2) (-1 : Int32)) := IM_v17 I1 _ _ (by decide) (by decide)
  have hr2 : ((g_sA (g_sA u 16 (u.1 2) (0 : Int32)) 17 (u.1 2) (-1 : Int32)).2 13 c.toNatClampNeg).toInt < 0 := by
    rw [eq_w 17 _ _ 13 _ (by decide), eq_w 16 _ _ 13 _ (by decide)]; exact hr
  have w1 : (g_sA (g_sA u 16 (u.1 2) (0 : Int32)) 17 (u.1 2) (-1 : Int32)).1 = u.1 := rfl
  generalize g_sA (g_sA u 16 (u.1 2) (0 : Int32)) 17 (u.1 2) (-1 : Int32) = w at I2 hr2 w1 ⊢
  have k1 : (w.1 1).toInt = (u.1 1).toInt := by rw [w1]
  have k2 : (w.1 2).toInt = (u.1 2).toInt := by rw [w1]
  refine ⟨?_, ?_, ⟨?_, ?_⟩, ?_⟩
  · show 0 ≤ v1.toInt ∧ v1.toInt ≤ 120 ∧ 0 ≤ v2.toInt ∧ v2.toInt ≤ 60
    omega
  · exact rg_w (lo := loM) (hi := hiM) (u := g_sI w 2 v2) I2.2.1 12 c vE (show (0 : Int) ≤ vE.toInt by omega) (show vE.toInt ≤ (59 : Int) by omega)
  · intro e he q
    have he : (e : Int) < v2.toInt := he
    have q : ¬ (g_sA (g_sI w 2 v2) 12 c vE).2 16 e = 3 := q
    rw [eq_w 12 c vE 16 e (by decide)] at q
    have q : ¬ w.2 16 e = 3 := q
    by_cases z : (e : Int) = (u.1 2).toInt
    · refine ⟨c.toNatClampNeg, ?_, ?_, ?_⟩
      · show (c.toNatClampNeg : Int) < v1.toInt
        omega
      · show ((g_sA (g_sI w 2 v2) 12 c vE).2 12 c.toNatClampNeg).toInt = e
        rw [rdA, if_pos ⟨rfl, rfl⟩]; omega
      · show ((g_sA (g_sI w 2 v2) 12 c vE).2 13 c.toNatClampNeg).toInt < 0
        rw [eq_w 12 c vE 13 _ (by decide)]; exact hr2
    · obtain ⟨d, a1, a2, a3⟩ := IM_f I2 e (by omega) q
      refine ⟨d, ?_, ?_, ?_⟩
      · show (d : Int) < v1.toInt
        omega
      · show ((g_sA (g_sI w 2 v2) 12 c vE).2 12 d).toInt = e
        rw [rdA, if_neg (fun y => by have := y.2; omega)]; exact a2
      · show ((g_sA (g_sI w 2 v2) 12 c vE).2 13 d).toInt < 0
        rw [eq_w 12 c vE 13 _ (by decide)]; exact a3
  · intro d hd
    have hd : (d : Int) < v1.toInt := hd
    show ((g_sA (g_sI w 2 v2) 12 c vE).2 12 d).toInt < v2.toInt
    rw [rdA]
    by_cases y : 12 = 12 ∧ d = c.toNatClampNeg
    · rw [if_pos y]; omega
    · rw [if_neg y]
      have y2 : ¬ d = c.toNatClampNeg := fun q => y ⟨rfl, q⟩
      have := IM_e I2 d (by omega)
      show (w.2 12 d).toInt < v2.toInt
      omega
  · intro j
    show (g_sA (g_sI w 2 v2) 12 c vE).2 5 j = g j
    rw [eq_w 12 c vE 5 j (by decide)]; exact IM_g I2 j
theorem IM_spl (I : IM g u) {x v2 vE : Int32} (h0 : 0 ≤ x.toInt) (h1 : x.toInt < (u.1 1).toInt) (hr : 0 ≤ (u.2 13 x.toNatClampNeg).toInt) (h2 : (u.1 2).toInt ≤ 59) (e2 : v2.toInt = (u.1 2).toInt + 1) (eE : vE.toInt = (u.1 2).toInt) :
    IM g (g_sA (g_sA (g_sA (g_sI (g_sA (g_sA u 16 (u.1 2) (0 : Int32)) 17 (u.1 2) (-1 : Int32)) 2 v2) 13 x (-1 : Int32)) 15 x (0 : Int32)) 12 x vE) := by
  have hs := IM_s I
  have hcl : (x.toNatClampNeg : Int) = x.toInt := cl_I (by omega)
  have hel : ((u.1 2).toNatClampNeg : Int) = (u.1 2).toInt := cl_I (by omega)
  have I1 : IM g (g_sA u 16 (u.1 2) (0 : Int32)) := IM_w16b I _ _ (by omega)
  have I2 : IM g (g_sA (g_sA u 16 (u.1 2) (0 : Int32)) 17 (u.1 2) (-1 : Int32)) := IM_v17 I1 _ _ (by decide) (by decide)
  have hr2 : 0 ≤ ((g_sA (g_sA u 16 (u.1 2) (0 : Int32)) 17 (u.1 2) (-1 : Int32)).2 13 x.toNatClampNeg).toInt := by
    rw [eq_w 17 _ _ 13 _ (by decide), eq_w 16 _ _ 13 _ (by decide)]; exact hr
  have w1 : (g_sA (g_sA u 16 (u.1 2) (0 : Int32)) 17 (u.1 2) (-1 : Int32)).1 = u.1 := rfl
  generalize g_sA (g_sA u 16 (u.1 2) (0 : Int32)) 17 (u.1 2) (-1 : Int32) = w at I2 hr2 w1 ⊢
  have k1 : (w.1 1).toInt = (u.1 1).toInt := by rw [w1]
  have k2 : (w.1 2).toInt = (u.1 2).toInt := by rw [w1]
  have r13 : rg_ok loM hiM (g_sA (g_sI w 2 v2) 13 x (-1 : Int32)) := rg_w (lo := loM) (hi := hiM) (u := g_sI w 2 v2) I2.2.1 13 x (-1 : Int32) (by decide) (by decide)
  have r15 : rg_ok loM hiM (g_sA (g_sA (g_sI w 2 v2) 13 x (-1 : Int32)) 15 x (0 : Int32)) := rg_w (lo := loM) (hi := hiM) r13 15 x (0 : Int32) (by decide) (by decide)
  have rd12 : ∀ d, (g_sA (g_sA (g_sA (g_sI w 2 v2) 13 x (-1 : Int32)) 15 x (0 : Int32)) 12 x vE).2 12 d = if d = x.toNatClampNeg then vE else w.2 12 d := by
    intro d
    rw [rdA]
    by_cases y : d = x.toNatClampNeg
    · rw [if_pos ⟨rfl, y⟩, if_pos y]
    · rw [if_neg (fun q => y q.2), if_neg y, eq_w 15 _ _ 12 _ (by decide), eq_w 13 _ _ 12 _ (by decide)]; rfl
  have rd13 : ∀ d, (g_sA (g_sA (g_sA (g_sI w 2 v2) 13 x (-1 : Int32)) 15 x (0 : Int32)) 12 x vE).2 13 d = if d = x.toNatClampNeg then (-1 : Int32) else w.2 13 d := by
    intro d
    rw [eq_w 12 _ _ 13 _ (by decide), eq_w 15 _ _ 13 _ (by decide), rdA]
    by_cases y : d = x.toNatClampNeg
    · rw [if_pos ⟨rfl, y⟩, if_pos y]
    · rw [if_neg (fun q => y q.2), if_neg y]; rfl
  refine ⟨?_, rg_w (lo := loM) (hi := hiM) r15 12 x vE (show (0 : Int) ≤ vE.toInt by omega) (show vE.toInt ≤ (59 : Int) by omega), ⟨?_, ?_⟩, ?_⟩
  · show 0 ≤ (w.1 1).toInt ∧ (w.1 1).toInt ≤ 120 ∧ 0 ≤ v2.toInt ∧ v2.toInt ≤ 60
    omega
  · intro e he q
    have he : (e : Int) < v2.toInt := he
    rw [eq_w 12 _ _ 16 e (by decide), eq_w 15 _ _ 16 e (by decide), eq_w 13 _ _ 16 e (by decide)] at q
    have q : ¬ w.2 16 e = 3 := q
    by_cases z : (e : Int) = (u.1 2).toInt
    · refine ⟨x.toNatClampNeg, ?_, ?_, ?_⟩
      · show (x.toNatClampNeg : Int) < (w.1 1).toInt
        omega
      · rw [rd12, if_pos rfl]; omega
      · rw [rd13, if_pos rfl]; decide
    · obtain ⟨d, a1, a2, a3⟩ := IM_f I2 e (by omega) q
      have y : ¬ d = x.toNatClampNeg := fun q => by rw [q] at a3; omega
      exact ⟨d, a1, by rw [rd12, if_neg y]; exact a2, by rw [rd13, if_neg y]; exact a3⟩
  · intro d hd
    have hd : (d : Int) < (w.1 1).toInt := hd
    show _ < v2.toInt
    rw [rd12]
    by_cases y : d = x.toNatClampNeg
    · rw [if_pos y]; omega
    · rw [if_neg y]
      have := IM_e I2 d hd
      omega
  · intro j
    rw [eq_w 12 _ _ 5 j (by decide), eq_w 15 _ _ 5 j (by decide), eq_w 13 _ _ 5 j (by decide)]; exact IM_g I2 j
def mu_ (f : Nat → Int32) (b : Int32) : Nat → Nat
  | 0 => 0
  | k + 1 => mu_ f b k + (if f k = b then 1 else 0)
theorem mu_s (f : Nat → Int32) (b : Int32) (k : Nat) : mu_ f b (k + 1) = mu_ f b k + (if f k = b then 1 else 0) := rfl
theorem mu_le (f : Nat → Int32) (b : Int32) : ∀ k, mu_ f b k ≤ k := by
  intro k
  induction k with
  | zero => exact Nat.le_refl _
  | succ k ih =>
    rw [mu_s]
    by_cases h : f k = b
    · rw [if_pos h]; omega
    · rw [if_neg h]; omega
theorem mu_ext (f f' : Nat → Int32) (b : Int32) : ∀ k, (∀ j, j < k → f' j = f j) → mu_ f' b k = mu_ f b k := by
  intro k
  induction k with
  | zero => intro _; rfl
  | succ k ih => intro h; rw [mu_s, mu_s, ih (fun j hj => h j (by omega)), h k (by omega)]
theorem mu_dec (f f' : Nat → Int32) (b : Int32) (i : Nat) (h1 : f i = b) (h2 : ¬ f' i = b) (h3 : ∀ j, ¬ j = i → f' j = f j) : ∀ k, i < k → mu_ f' b k + 1 = mu_ f b k := by
  intro k
  induction k with
  | zero => intro h; omega
  | succ k ih =>
    intro h
    rw [mu_s, mu_s]
    by_cases e : i = k
    · subst e
      rw [if_pos h1, if_neg h2, mu_ext f f' b i (fun j hj => h3 j (by omega))]
    · rw [h3 k (fun q => e q.symm)]
      have := ih (by omega)
      omega
theorem okk_split124 {x4 x5 : Int32} {k : g_S → Int32 → Int32 → Int32 → Option (Int32 × g_S)} {m : Nat} {Q : Int32 × g_S → Prop} (h4 : 0 ≤ x4.toInt) (h5 : x4.toInt ≤ 59) (hne : ¬ x4 = x5) (hk : ∀ (u : g_S) (x6 : Int32), IM g u → x4.toInt < (u.1 2).toInt → (x6 = 0 ∨ (x6 = 1 ∧ mu_ (u.2 12) x5 120 < m)) → okk (k u x4 x5 x6) Q) :
    ∀ (n : Nat) (u : g_S) (x6 x7 : Int32), IM g u → x4.toInt < (u.1 2).toInt → 0 ≤ x7.toInt → x7.toInt ≤ 120 → 121 ≤ (n : Int) + x7.toInt → ((x6 = 0 ∧ mu_ (u.2 12) x5 120 ≤ m) ∨ (x6 = 1 ∧ mu_ (u.2 12) x5 120 < m)) → okk (fm_split_124 k n u x4 x5 x6 x7) Q := by
  have z0 : (0 : Int32).toInt = 0 := by decide
  intro n
  induction n with
  | zero =>
    intro u x6 x7 I h9 h0 h1 hf hm
    exfalso; omega
  | succ n ih =>
    intro u x6 x7 I h9 h0 h1 hf hm
    rw [fm_split_124_s]
    have z := IM_s I
    refine okk_le (fun c cI => ?_) (fun c cI => ?_)
    · exact hk u x6 I h9 (hm.imp (fun q => q.1) id)
    · have t : (x7 + (1 : Int32)).toInt = x7.toInt + 1 := oi_add rfl (by decide) (by omega) (by omega)
      have hrec := ih u x6 (x7 + (1 : Int32)) I h9 (by omega) (by omega) (by omega) hm
      have hr := IM_r13 I x7.toNatClampNeg
      refine okk_ck (vp_I (by omega) (by omega)) ?_
      refine okk_ne (fun _ _ => hrec) (fun d dI => ?_)
      refine okk_ck (vp_I (by omega) (by omega)) ?_
      refine okk_lt (fun _ _ => hrec) (fun f fI => ?_)
      refine okk_ck (vp_I (by omega) (by omega)) ?_
      refine okk_ck (vp_I (by omega) (by omega)) ?_
      refine okk_ne (fun _ _ => hrec) (fun _ _ => ?_)
      refine okk_ck (vp_I (by omega) (by omega)) ?_
      refine okk_gl (fun u8 e8 => ?_)
      have I8 : IM g u8 := by rw [e8]; exact IM_w12c I _ _ h4 h5 h9 (by omega)
      have h98 : x4.toInt < (u8.1 2).toInt := by rw [e8]; exact h9
      have hcl : (x7.toNatClampNeg : Int) = x7.toInt := cl_I (by omega)
      have hd : mu_ (u8.2 12) x5 120 + 1 = mu_ (u.2 12) x5 120 := by
        rw [e8]
        refine mu_dec (u.2 12) _ x5 x7.toNatClampNeg d ?_ ?_ 120 (by omega)
        · rw [rdA, if_pos ⟨rfl, rfl⟩]; exact hne
        · intro j hj
          rw [rdA, if_neg (fun y => hj y.2)]
      have hm2 : mu_ (u8.2 12) x5 120 < m := by
        rcases hm with q | q
        · have := q.2; omega
        · have := q.2; omega
      exact ih u8 (1 : Int32) (x7 + (1 : Int32)) I8 h98 (by omega) (by omega) (by omega) (Or.inr ⟨rfl, hm2⟩)
theorem okk_split113 {x4 x5 : Int32} (h4 : 0 ≤ x4.toInt) (h5 : x4.toInt ≤ 59) (hne : ¬ x4 = x5) : ∀ (n : Nat) (u : g_S) (x6 : Int32), IM g u → x4.toInt < (u.1 2).toInt → ((x6 = 0 ∧ 1 ≤ n) ∨ (x6 = 1 ∧ mu_ (u.2 12) x5 120 + 2 ≤ n)) → okk (fm_split_113 n u x4 x5 x6) (fun r => IM g r.2) := by
  have z0 : (0 : Int32).toInt = 0 := by decide
  intro n
  induction n with
  | zero =>
    intro u x6 I h9 h
    exfalso
    rcases h with q | q
    · have := q.2; omega
    · have := q.2; omega
  | succ n ih =>
    intro u x6 I h9 h
    rw [fm_split_113_s]
    refine okk_eq (fun c cI => ?_) (fun c cI => ?_)
    · exact okk_some I
    · have h1 : mu_ (u.2 12) x5 120 + 2 ≤ n + 1 := by
        rcases h with q | q
        · exact absurd q.1 c
        · exact q.2
      refine okk_split124 (m := mu_ (u.2 12) x5 120) h4 h5 hne (fun u' x6' I' h9' h' => ih u' x6' I' h9' ?_) 200 u (0 : Int32) (0 : Int32) I h9 (by omega) (by omega) (by omega) (Or.inl ⟨rfl, Nat.le_refl _⟩)
      rcases h' with q | q
      · exact Or.inl ⟨q, by omega⟩
      · exact Or.inr ⟨q.1, by have := q.2; omega⟩
theorem okk_split66 (I : IM g u) {x1 : Int32} (h0 : 0 ≤ x1.toInt) (h1 : x1.toInt < (u.1 1).toInt) (hr : 0 ≤ (u.2 13 x1.toNatClampNeg).toInt) (h2 : (u.1 2).toInt ≤ 59) : okk (fm_split_66 u x1 (0 : Int32) (0 : Int32) (0 : Int32)) (fun r => IM g r.2) := by
  unfold fm_split_66
  obtain ⟨w, ew⟩ : ∃ y, y = g_sI u 0 (0 : Int32) := ⟨_, rfl⟩
  refine okk_bs (v := ((0 : Int32), w)) (by rw [ew]; exact fm_thr_0 _) ?_
  dsimp only
  have I0 : IM g w := by rw [ew]; exact IM_ix I _ (by decide)
  have a1 : w.1 1 = u.1 1 := by rw [ew]; rfl
  have a2 : w.1 2 = u.1 2 := by rw [ew]; rfl
  have a3 : w.2 = u.2 := by rw [ew]; rfl
  rw [← a1] at h1
  rw [← a2] at h2
  rw [← a3] at hr
  clear ew a1 a2 a3
  have hs := IM_s I0
  have hcl : (x1.toNatClampNeg : Int) = x1.toInt := cl_I (by omega)
  refine okk_t (by decide) ?_
  refine okk_bs (fm_new_eq w (by omega) (by omega)) ?_
  dsimp only
  have t2 : ((w.1 2) + (1 : Int32)).toInt = (w.1 2).toInt + 1 := oi_add rfl (by decide) (by omega) (by omega)
  have tE : (((w.1 2) + (1 : Int32)) - (1 : Int32)).toInt = (w.1 2).toInt := by
    rw [oi_sub t2 (by decide : (1 : Int32).toInt = 1) (by omega) (by omega)]; omega
  have hev := IM_e I0 x1.toNatClampNeg (by omega)
  generalize ((w.1 2) + (1 : Int32)) - (1 : Int32) = vE at tE ⊢
  generalize (w.1 2) + (1 : Int32) = v2 at t2 ⊢
  refine okk_ck (vp_I (by omega) (by omega)) ?_
  refine okk_gl (fun b4 e4 => ?_)
  refine okk_ck (vp_I (by omega) (by omega)) ?_
  refine okk_gl (fun b5 e5 => ?_)
  refine okk_ck (vp_I (by omega) (by omega)) ?_
  refine okk_gl (fun was e6 => ?_)
  refine okk_ck (vp_I (by omega) (by omega)) ?_
  refine okk_gl (fun b7 e7 => ?_)
  have I7 : IM g b7 := by rw [e7, e5, e4]; exact IM_spl I0 h0 h1 hr h2 t2 tE
  have hw : was = w.2 12 x1.toNatClampNeg := by
    rw [e6, e5, e4, eq_w 15 _ _ 12 _ (by decide), eq_w 13 _ _ 12 _ (by decide)]
    show (g_sA (g_sA w 16 (w.1 2) (0 : Int32)) 17 (w.1 2) (-1 : Int32)).2 12 x1.toNatClampNeg = _
    rw [eq_w 17 _ _ 12 _ (by decide), eq_w 16 _ _ 12 _ (by decide)]
  have h7 : vE.toInt < (b7.1 2).toInt := by
    rw [e7, e5, e4]
    show vE.toInt < v2.toInt
    omega
  have hne : ¬ vE = was := fun q => by
    rw [hw] at q
    rw [← q] at hev; omega
  exact okk_split113 (by omega) (by omega) hne 200 b7 (1 : Int32) I7 h7 (Or.inr ⟨rfl, by have := mu_le (b7.2 12) was 120; omega⟩)
end HN2
end
section
section HN3
variable {g : Nat → Int32} {u : g_S}
theorem okk_call90 (I : IM g u) {x1 x2 x3 x4 x6 x7 : Int32} (hk : 0 ≤ x2.toInt) (hk2 : x2.toInt ≤ 7) (h1 : -1 ≤ x7.toInt) (h2 : x7.toInt < (u.1 1).toInt) (hc : (u.1 1).toInt ≤ 119) (he : 0 ≤ x7.toInt ∨ (u.1 2).toInt ≤ 59) : okk (fm_call_90 u x1 x2 x3 x4 x6 x7 (0 : Int32) (0 : Int32) (0 : Int32)) (fun r => IM g r.2) := by
  unfold fm_call_90
  have z0 : (0 : Int32).toInt = 0 := by decide
  obtain ⟨w, ew⟩ : ∃ y, y = g_sI u 0 (0 : Int32) := ⟨_, rfl⟩
  refine okk_bs (v := ((0 : Int32), w)) (by rw [ew]; exact fm_thr_0 _) ?_
  dsimp only
  have I0 : IM g w := by rw [ew]; exact IM_ix I _ (by decide)
  have a1 : (w.1 1).toInt = (u.1 1).toInt := by rw [ew]; rfl
  have a2 : (w.1 2).toInt = (u.1 2).toInt := by rw [ew]; rfl
  have hs := IM_s I0
  clear ew
  refine okk_t (by decide) ?_
  refine okk_gl (fun c ec => ?_)
  have tc : c.toInt = (w.1 1).toInt := by rw [ec]
  have hcl : (c.toNatClampNeg : Int) = c.toInt := cl_I (by omega)
  refine okk_ck (vp_I (by omega) (by omega)) ?_
  refine okk_gl (fun b7 e7 => ?_)
  have J7 : IM g b7 := by rw [e7]; exact IM_wx I0 7 _ _ rfl rfl (by decide)
  have s7_1 : (b7.1 1).toInt = (w.1 1).toInt := by rw [e7]; rfl
  have s7_2 : (b7.1 2).toInt = (w.1 2).toInt := by rw [e7]; rfl
  refine okk_ck (vp_I (by omega) (by omega)) ?_
  refine okk_gl (fun b8 e8 => ?_)
  have J8 : IM g b8 := by rw [e8]; exact IM_v8 J7 _ _ hk hk2
  have s8_1 : (b8.1 1).toInt = (b7.1 1).toInt := by rw [e8]; rfl
  have s8_2 : (b8.1 2).toInt = (b7.1 2).toInt := by rw [e8]; rfl
  refine okk_ck (vp_I (by omega) (by omega)) ?_
  refine okk_gl (fun b9 e9 => ?_)
  have J9 : IM g b9 := by rw [e9]; exact IM_wx J8 9 _ _ rfl rfl (by decide)
  have s9_1 : (b9.1 1).toInt = (b8.1 1).toInt := by rw [e9]; rfl
  have s9_2 : (b9.1 2).toInt = (b8.1 2).toInt := by rw [e9]; rfl
  refine okk_ck (vp_I (by omega) (by omega)) ?_
  refine okk_gl (fun b10 e10 => ?_)
  have J10 : IM g b10 := by rw [e10]; exact IM_wx J9 10 _ _ rfl rfl (by decide)
  have s10_1 : (b10.1 1).toInt = (b9.1 1).toInt := by rw [e10]; rfl
  have s10_2 : (b10.1 2).toInt = (b9.1 2).toInt := by rw [e10]; rfl
  refine okk_ck (vp_I (by omega) (by omega)) ?_
  refine okk_gl (fun b11 e11 => ?_)
  have J11 : IM g b11 := by rw [e11]; exact IM_wx J10 11 _ _ rfl rfl (by decide)
  have s11_1 : (b11.1 1).toInt = (b10.1 1).toInt := by rw [e11]; rfl
  have s11_2 : (b11.1 2).toInt = (b10.1 2).toInt := by rw [e11]; rfl
  refine okk_ck (vp_I (by omega) (by omega)) ?_
  refine okk_gl (fun b14 e14 => ?_)
  have J14 : IM g b14 := by rw [e14]; exact IM_wx J11 14 _ _ rfl rfl (by decide)
  have s14_1 : (b14.1 1).toInt = (b11.1 1).toInt := by rw [e14]; rfl
  have s14_2 : (b14.1 2).toInt = (b11.1 2).toInt := by rw [e14]; rfl
  refine okk_ck (vp_I (by omega) (by omega)) ?_
  refine okk_gl (fun b13 e13 => ?_)
  have J13 : IM g b13 := by rw [e13]; exact IM_w13b J14 _ _ h1 (by omega) (by omega)
  have s13_1 : (b13.1 1).toInt = (b14.1 1).toInt := by rw [e13]; rfl
  have s13_2 : (b13.1 2).toInt = (b14.1 2).toInt := by rw [e13]; rfl
  refine okk_ck (vp_I (by omega) (by omega)) ?_
  refine okk_gl (fun b15 e15 => ?_)
  have J15 : IM g b15 := by rw [e15]; exact IM_wx J13 15 _ _ rfl rfl (by decide)
  have s15_1 : (b15.1 1).toInt = (b13.1 1).toInt := by rw [e15]; rfl
  have s15_2 : (b15.1 2).toInt = (b13.1 2).toInt := by rw [e15]; rfl
  have hx : b15.2 13 c.toNatClampNeg = x7 := by rw [e15, eq_w 15 _ _ 13 _ (by decide), e13, rdA, if_pos ⟨rfl, rfl⟩]
  refine okk_le (fun f fI => ?_) (fun f fI => ?_)
  · have hx7 : (x7.toNatClampNeg : Int) = x7.toInt := cl_I (by omega)
    have hev := IM_e J15 x7.toNatClampNeg (by omega)
    have hr := IM_r12 J15 x7.toNatClampNeg
    refine okk_ck (vp_I (by omega) (by omega)) ?_
    unfold fm_call_199
    refine okk_ck (vp_I (by omega) (by omega)) ?_
    refine okk_gl (fun ua ea => ?_)
    have Ia : IM g ua := by rw [ea]; exact IM_w12b J15 _ _ (by omega) (by omega) (by omega)
    have sa : (ua.1 1).toInt = (b15.1 1).toInt := by rw [ea]; rfl
    have sb : (ua.1 2).toInt = (b15.1 2).toInt := by rw [ea]; rfl
    refine okk_gl (fun ub eb => ?_)
    have t1 : ((ua.1 1) + (1 : Int32)).toInt = (ua.1 1).toInt + 1 := oi_add rfl (by decide) (by omega) (by omega)
    have Ib : IM g ub := by
      rw [eb]
      refine IM_i1u Ia _ t1 (by omega) (fun d hd => ?_)
      have hdc : d = c.toNatClampNeg := by omega
      rw [hdc, sb, ea, rdA, if_pos ⟨rfl, rfl⟩]; exact hev
    exact okk_some Ib
  · have h5 : (b15.1 2).toInt ≤ 59 := by omega
    refine okk_bs (fm_new_eq b15 (by omega) (by omega)) ?_
    dsimp only
    have t2 : ((b15.1 2) + (1 : Int32)).toInt = (b15.1 2).toInt + 1 := oi_add rfl (by decide) (by omega) (by omega)
    have tE : (((b15.1 2) + (1 : Int32)) - (1 : Int32)).toInt = (b15.1 2).toInt := by
      rw [oi_sub t2 (by decide : (1 : Int32).toInt = 1) (by omega) (by omega)]; omega
    unfold fm_call_199
    refine okk_ck (vp_I (by omega) (by omega)) ?_
    refine okk_gl (fun ua ea => ?_)
    refine okk_gl (fun ub eb => ?_)
    have u1 : ua.1 1 = b15.1 1 := by rw [ea]; rfl
    have t1 : ((ua.1 1) + (1 : Int32)).toInt = (b15.1 1).toInt + 1 := by rw [u1]; exact oi_add rfl (by decide) (by omega) (by omega)
    have Ib : IM g ub := by
      rw [eb]
      generalize (ua.1 1) + (1 : Int32) = v1 at t1 ⊢
      rw [ea]
      exact IM_new J15 (by omega) (by omega) h5 (by rw [hx]; omega) t2 tE t1
    exact okk_some Ib
def IMx (g : Nat → Int32) (E : Nat) (u : g_S) : Prop := (0 ≤ (u.1 1).toInt ∧ (u.1 1).toInt ≤ 120 ∧ 0 ≤ (u.1 2).toInt ∧ (u.1 2).toInt ≤ 60) ∧ (∀ k j : Nat, loM k ≤ (u.2 k j).toInt ∧ (u.2 k j).toInt ≤ hiM k) ∧ ((∀ e : Nat, ¬ e = E → (e : Int) < (u.1 2).toInt → ¬ u.2 16 e = 3 → ∃ c : Nat, (c : Int) < (u.1 1).toInt ∧ (u.2 12 c).toInt = e ∧ (u.2 13 c).toInt < 0) ∧ ∀ c : Nat, (c : Int) < (u.1 1).toInt → (u.2 12 c).toInt < (u.1 2).toInt) ∧ ∀ j, u.2 5 j = g j
theorem IMx_of {E : Nat} (I : IM g u) (i v : Int32) (h1 : -1 ≤ v.toInt) (h2 : v.toInt ≤ 119) (h : (u.2 12 i.toNatClampNeg).toInt = E) : IMx g E (g_sA u 13 i v) := by
  refine ⟨I.1, rg_w (lo := loM) (hi := hiM) I.2.1 13 i v h1 h2, ⟨fun e ne he q => ?_, fun c q => ?_⟩, fun j => ?_⟩
  · rw [eq_w 13 i v 16 e (by decide)] at q
    obtain ⟨c, a1, a2, a3⟩ := IM_f I e he q
    refine ⟨c, a1, by rw [eq_w 13 i v 12 c (by decide)]; exact a2, ?_⟩
    rw [rdA, if_neg (fun y => by rw [y.2] at a2; omega)]; exact a3
  · rw [eq_w 13 i v 12 c (by decide)]; exact IM_e I c q
  · rw [eq_w 13 i v 5 j (by decide)]; exact IM_g I j
theorem IMx_15 {E : Nat} (I : IMx g E u) (i v : Int32) : IMx g E (g_sA u 15 i v) := by
  refine ⟨I.1, rg_w (lo := loM) (hi := hiM) I.2.1 15 i v (oi_lo v) (oi_hi v), ⟨fun e ne he q => ?_, fun c q => ?_⟩, fun j => ?_⟩
  · rw [eq_w 15 i v 16 e (by decide)] at q
    obtain ⟨c, a1, a2, a3⟩ := I.2.2.1.1 e ne he q
    exact ⟨c, a1, by rw [eq_w 15 i v 12 c (by decide)]; exact a2, by rw [eq_w 15 i v 13 c (by decide)]; exact a3⟩
  · rw [eq_w 15 i v 12 c (by decide)]; exact I.2.2.1.2 c q
  · rw [eq_w 15 i v 5 j (by decide)]; exact I.2.2.2 j
theorem IMx_12 {E : Nat} (I : IMx g E u) (i v : Int32) (h1 : 0 ≤ v.toInt) (h2 : v.toInt ≤ 59) (h3 : v.toInt < (u.1 2).toInt) (h : (u.2 12 i.toNatClampNeg).toInt = E) : IMx g E (g_sA u 12 i v) := by
  refine ⟨I.1, rg_w (lo := loM) (hi := hiM) I.2.1 12 i v h1 h2, ⟨fun e ne he q => ?_, fun c q => ?_⟩, fun j => ?_⟩
  · rw [eq_w 12 i v 16 e (by decide)] at q
    obtain ⟨c, a1, a2, a3⟩ := I.2.2.1.1 e ne he q
    refine ⟨c, a1, ?_, by rw [eq_w 12 i v 13 c (by decide)]; exact a3⟩
    rw [rdA, if_neg (fun y => by rw [y.2] at a2; omega)]; exact a2
  · rw [rdA]
    by_cases y : 12 = 12 ∧ c = i.toNatClampNeg
    · rw [if_pos y]; exact h3
    · rw [if_neg y]; exact I.2.2.1.2 c q
  · rw [eq_w 12 i v 5 j (by decide)]; exact I.2.2.2 j
theorem IMx_cl {E : Nat} (I : IMx g E u) (i : Int32) (h : i.toNatClampNeg = E) : IM g (g_sA u 16 i (3 : Int32)) := by
  refine ⟨I.1, rg_w (lo := loM) (hi := hiM) I.2.1 16 i (3 : Int32) (oi_lo 3) (oi_hi 3), ⟨fun e he q => ?_, fun c q => ?_⟩, fun j => ?_⟩
  · rw [rdA] at q
    by_cases z : e = i.toNatClampNeg
    · rw [if_pos ⟨rfl, z⟩] at q; exact absurd rfl q
    · rw [if_neg (fun y => z y.2)] at q
      obtain ⟨c, a1, a2, a3⟩ := I.2.2.1.1 e (by rw [← h]; exact z) he q
      exact ⟨c, a1, by rw [eq_w 16 i _ 12 c (by decide)]; exact a2, by rw [eq_w 16 i _ 13 c (by decide)]; exact a3⟩
  · rw [eq_w 16 i _ 12 c (by decide)]; exact I.2.2.1.2 c q
  · rw [eq_w 16 i _ 5 j (by decide)]; exact I.2.2.2 j
theorem okk_merge115 {x1 x2 : Int32} (h0 : 0 ≤ x1.toInt) (h2 : 0 ≤ x2.toInt) : ∀ (n : Nat) (u : g_S) (x6 : Int32), IMx g x1.toNatClampNeg u → x1.toInt < (u.1 2).toInt → x2.toInt < (u.1 1).toInt → ¬ u.2 12 x2.toNatClampNeg = x1 → 0 ≤ x6.toInt → x6.toInt ≤ 120 → 121 ≤ (n : Int) + x6.toInt → okk (fm_merge_115 n u x1 x2 x6) (fun r => IM g r.2) := by
  intro n
  induction n with
  | zero =>
    intro u x6 I a1 a2 a3 h3 h4 hf
    exfalso; omega
  | succ n ih =>
    intro u x6 I a1 a2 a3 h3 h4 hf
    have hs := I.1
    have hx1 : (x1.toNatClampNeg : Int) = x1.toInt := cl_I h0
    have hx2 : (x2.toNatClampNeg : Int) = x2.toInt := cl_I h2
    rw [fm_merge_115_s]
    refine okk_le (fun c cI => ?_) (fun c cI => ?_)
    · refine okk_ck (vp_I (by omega) (by omega)) ?_
      refine okk_gl (fun b6 e6 => ?_)
      have I6 : IM g b6 := by rw [e6]; exact IMx_cl I _ rfl
      refine okk_ck (vp_I (by omega) (by omega)) ?_
      refine okk_gl (fun b7 e7 => ?_)
      have I7 : IM g b7 := by rw [e7]; exact IM_v17 I6 _ _ (by decide) (by decide)
      refine okk_ck (vp_I (by omega) (by omega)) ?_
      refine okk_bi (okk_fm_size I7) (fun v8 _ => ?_)
      exact okk_some I7
    · have t : (x6 + (1 : Int32)).toInt = x6.toInt + 1 := oi_add rfl (by decide) (by omega) (by omega)
      refine okk_ck (vp_I (by omega) (by omega)) ?_
      refine okk_ne (fun _ _ => ih u (x6 + (1 : Int32)) I a1 a2 a3 (by omega) (by omega) (by omega)) (fun d dI => ?_)
      refine okk_ck (vp_I (by omega) (by omega)) ?_
      refine okk_ck (vp_I (by omega) (by omega)) ?_
      refine okk_gl (fun b9 e9 => ?_)
      have hr : loM 12 ≤ (u.2 12 x2.toNatClampNeg).toInt ∧ (u.2 12 x2.toNatClampNeg).toInt ≤ hiM 12 := I.2.1 12 _
      have hv := I.2.2.1.2 x2.toNatClampNeg (by omega)
      have I9 : IMx g x1.toNatClampNeg b9 := by rw [e9]; exact IMx_12 I _ _ hr.1 hr.2 hv (by rw [dI]; omega)
      have a9 : ¬ b9.2 12 x2.toNatClampNeg = x1 := by
        rw [e9, rdA]
        by_cases y : 12 = 12 ∧ x2.toNatClampNeg = x6.toNatClampNeg
        · rw [if_pos y]; exact a3
        · rw [if_neg y]; exact a3
      exact ih b9 (x6 + (1 : Int32)) I9 (by rw [e9]; exact a1) (by rw [e9]; exact a2) a9 (by omega) (by omega) (by omega)
theorem okk_merge80 (I : IM g u) {x1 x2 : Int32} (h0 : 0 ≤ x1.toInt) (h1 : x1.toInt < (u.1 2).toInt) (hst : u.2 16 x1.toNatClampNeg = 0) (h2 : 0 ≤ x2.toInt) (h3 : x2.toInt < (u.1 1).toInt) (hne : ¬ u.2 12 x2.toNatClampNeg = x1) : okk (fm_merge_80 u x1 x2 (0 : Int32) (0 : Int32)) (fun r => IM g r.2) := by
  unfold fm_merge_80
  have z0 : (0 : Int32).toInt = 0 := by decide
  obtain ⟨w, ew⟩ : ∃ y, y = g_sI u 0 (0 : Int32) := ⟨_, rfl⟩
  refine okk_bs (v := ((0 : Int32), w)) (by rw [ew]; exact fm_thr_0 _) ?_
  dsimp only
  have I0 : IM g w := by rw [ew]; exact IM_ix I _ (by decide)
  have a1 : w.1 1 = u.1 1 := by rw [ew]; rfl
  have a2 : w.1 2 = u.1 2 := by rw [ew]; rfl
  have a3 : w.2 = u.2 := by rw [ew]; rfl
  rw [← a1] at h3
  rw [← a2] at h1
  rw [← a3] at hst hne
  clear ew a1 a2 a3
  have hs := IM_s I0
  have hx1 : (x1.toNatClampNeg : Int) = x1.toInt := cl_I h0
  refine okk_t (by decide) ?_
  refine okk_bi (okk_firstO I0 h0 h1 (by rw [hst]; decide)) (fun f hf => ?_)
  obtain ⟨b1, b2, b3, b4⟩ := hf
  refine okk_ck (vp_I (by omega) (by omega)) ?_
  refine okk_gl (fun c4 e4 => ?_)
  have I4 : IMx g x1.toNatClampNeg c4 := by rw [e4]; exact IMx_of I0 _ _ (by omega) (by omega) (by rw [b3]; omega)
  refine okk_ck (vp_I (by omega) (by omega)) ?_
  refine okk_gl (fun c5 e5 => ?_)
  have I5 : IMx g x1.toNatClampNeg c5 := by rw [e5]; exact IMx_15 I4 _ _
  have n5 : ¬ c5.2 12 x2.toNatClampNeg = x1 := by
    rw [e5, eq_w 15 _ _ 12 _ (by decide), e4, eq_w 13 _ _ 12 _ (by decide)]; exact hne
  exact okk_merge115 h0 h2 200 c5 (0 : Int32) I5 (by rw [e5, e4]; exact h1) (by rw [e5, e4]; exact h3) n5 (by omega) (by omega) (by omega)
theorem okk_fcR_append {p1 p2 : Int32} (I : IC g u) (h0 : 0 ≤ p1.toInt) (h1 : p1.toInt ≤ 7) (h2 : (g p1.toNatClampNeg).toInt ≤ 7) : okk (fcR_append u p1 p2) (fun r => r.1 = g p1.toNatClampNeg + (1 : Int32) ∧ IC (upd g p1.toNatClampNeg (g p1.toNatClampNeg + (1 : Int32))) r.2) := by
  unfold fcR_append
  have eg := IC_g I p1.toNatClampNeg
  have r := IC_r5 I p1.toNatClampNeg
  rw [eg] at r ⊢
  have t : (p1 * (8 : Int32)).toInt = p1.toInt * 8 := oi_mul rfl (by decide) (by omega) (by omega)
  have t2 : ((p1 * (8 : Int32)) + g p1.toNatClampNeg).toInt = p1.toInt * 8 + (g p1.toNatClampNeg).toInt := oi_add t rfl (by omega) (by omega)
  have t3 : (g p1.toNatClampNeg + (1 : Int32)).toInt = (g p1.toNatClampNeg).toInt + 1 := oi_add rfl (by decide) (by omega) (by omega)
  refine okk_ck (vp_I (by omega) (by omega)) ?_
  refine okk_ck (vp_I (by omega) (by omega)) ?_
  refine okk_gl (fun u1 e1 => ?_)
  have I1 : IC g u1 := by rw [e1]; exact IC_wx I 6 _ _ rfl rfl (by decide)
  have eg1 := IC_g I1 p1.toNatClampNeg
  rw [eg1]
  refine okk_ck (vp_I (by omega) (by omega)) ?_
  refine okk_ck (vp_I (by omega) (by omega)) ?_
  refine okk_gl (fun u2 e2 => ?_)
  have I2 : IC (upd g p1.toNatClampNeg (g p1.toNatClampNeg + (1 : Int32))) u2 := by rw [e2]; exact IC_w5 I1 _ _ (by omega) (by omega)
  refine okk_ck (vp_I (by omega) (by omega)) ?_
  refine okk_some ⟨?_, I2⟩
  rw [e2, rdA, if_pos ⟨rfl, rfl⟩]
theorem okk_fcJ_point (I : IC g u) {p1 p2 : Int32} : okk (fcJ_point u p1 p2) (fun r => ((r.1 = 1 ∧ ¬ (0 ≤ p1.toInt ∧ p1.toInt ≤ 7)) ∧ IC g r.2.2) ∨ ((r.1 = 2 ∧ (0 ≤ p1.toInt ∧ p1.toInt ≤ 7) ∧ ¬ (0 ≤ p2.toInt ∧ p2.toInt ≤ 99999999)) ∧ IC g r.2.2) ∨ ((r.1 = 4 ∧ (0 ≤ p1.toInt ∧ p1.toInt ≤ 7) ∧ (0 ≤ p2.toInt ∧ p2.toInt ≤ 99999999) ∧ 8 ≤ (g p1.toNatClampNeg).toInt) ∧ IC g r.2.2) ∨ ((r.1 = 0 ∧ (0 ≤ p1.toInt ∧ p1.toInt ≤ 7) ∧ (0 ≤ p2.toInt ∧ p2.toInt ≤ 99999999) ∧ (g p1.toNatClampNeg).toInt ≤ 7) ∧ r.2.1 = g p1.toNatClampNeg + (1 : Int32) ∧ IC (upd g p1.toNatClampNeg (g p1.toNatClampNeg + (1 : Int32))) r.2.2)) := by
  unfold fcJ_point
  have t8 : (8 : Int32).toInt = 8 := by decide
  have tP : (100000000 : Int32).toInt = 100000000 := by decide
  have eg := IC_g I p1.toNatClampNeg
  rw [eg]
  refine okk_isBelow (fun b => ?_) (fun b => ?_)
  · refine okk_bs (v := (0 : Nat)) (by decide) ?_
    refine okk_t (by decide) ?_
    refine okk_isBelow (fun b2 => ?_) (fun b2 => ?_)
    · refine okk_bs (v := (0 : Nat)) (by decide) ?_
      refine okk_t (by decide) ?_
      refine okk_ck (vp_I (by omega) (by omega)) ?_
      refine okk_le (fun c cI => ?_) (fun c cI => ?_)
      · unfold fcJ_point_37
        refine okk_bs (v := (4 : Nat)) (by decide) ?_
        refine okk_f (by decide) ?_
        exact okk_some (Or.inr (Or.inr (Or.inl ⟨⟨rfl, by omega, by omega, by omega⟩, I⟩)))
      · unfold fcJ_point_37
        refine okk_bs (v := (0 : Nat)) (by decide) ?_
        refine okk_t (by decide) ?_
        refine okk_bi (okk_fcR_append I (by omega) (by omega) (by omega)) (fun v hv => ?_)
        exact okk_some (Or.inr (Or.inr (Or.inr ⟨⟨rfl, by omega, by omega, by omega⟩, hv.1, hv.2⟩)))
    · refine okk_bs (v := (2 : Nat)) (by decide) ?_
      refine okk_f (by decide) ?_
      exact okk_some (Or.inr (Or.inl ⟨⟨rfl, by omega, by omega⟩, I⟩))
  · refine okk_bs (v := (1 : Nat)) (by decide) ?_
    refine okk_f (by decide) ?_
    exact okk_some (Or.inl ⟨⟨rfl, by omega⟩, I⟩)
theorem okk_mpt (I : IM g u) {x1 x2 : Int32} (h0 : 0 ≤ x1.toInt) (h1 : x1.toInt ≤ 7) (h2 : (g x1.toNatClampNeg).toInt ≤ 7) : okk (fm_point_59 u x1 x2 (0 : Int32) (0 : Int32) (0 : Int32)) (fun r => (r.2.1 0).toInt = 0 ∧ r.1 = g x1.toNatClampNeg + (1 : Int32) ∧ IM (upd g x1.toNatClampNeg (g x1.toNatClampNeg + (1 : Int32))) r.2) := by
  unfold fm_point_59
  obtain ⟨w, ew⟩ : ∃ y, y = g_sI u 0 (0 : Int32) := ⟨_, rfl⟩
  refine okk_bs (v := ((0 : Int32), w)) (by rw [ew]; exact fm_thr_0 _) ?_
  dsimp only
  have I0 : IM g w := by rw [ew]; exact IM_ix I _ (by decide)
  have a0 : (w.1 0).toInt = 0 := by rw [ew, rdI, if_pos rfl]; decide
  refine okk_t (by decide) ?_
  have eg := IM_g I0 x1.toNatClampNeg
  have r := IM_r5 I0 x1.toNatClampNeg
  rw [eg] at r ⊢
  have t : ((8 : Int32) * x1).toInt = 8 * x1.toInt := oi_mul (by decide) rfl (by omega) (by omega)
  have t2 : (((8 : Int32) * x1) + g x1.toNatClampNeg).toInt = 8 * x1.toInt + (g x1.toNatClampNeg).toInt := oi_add t rfl (by omega) (by omega)
  have t3 : (g x1.toNatClampNeg + (1 : Int32)).toInt = (g x1.toNatClampNeg).toInt + 1 := oi_add rfl (by decide) (by omega) (by omega)
  refine okk_ck (vp_I (by omega) (by omega)) ?_
  refine okk_ck (vp_I (by omega) (by omega)) ?_
  refine okk_gl (fun u1 e1 => ?_)
  have I1 : IM g u1 := by rw [e1]; exact IM_wx I0 6 _ _ rfl rfl (by decide)
  have eg1 := IM_g I1 x1.toNatClampNeg
  rw [eg1]
  refine okk_ck (vp_I (by omega) (by omega)) ?_
  refine okk_ck (vp_I (by omega) (by omega)) ?_
  refine okk_gl (fun u2 e2 => ?_)
  have I2 : IM (upd g x1.toNatClampNeg (g x1.toNatClampNeg + (1 : Int32))) u2 := by rw [e2]; exact IM_w5 I1 _ _ (by omega) (by omega)
  refine okk_ck (vp_I (by omega) (by omega)) ?_
  refine okk_some ⟨?_, ?_, I2⟩
  · rw [e2, e1]; exact a0
  · rw [e2, rdA, if_pos ⟨rfl, rfl⟩]
theorem okk_mpx (I : IM g u) {x1 x2 y1 y2 y3 : Int32} {k : Int32} {n : Int} (hk : fm_throwing u y1 y2 y3 = some ((1 : Int32), g_sI u 0 k)) (hn : k.toInt = n) : okk (fm_point_59 u x1 x2 y1 y2 y3) (fun r => (r.2.1 0).toInt = n ∧ IM g r.2) := by
  unfold fm_point_59
  refine okk_bs hk ?_
  dsimp only
  refine okk_f (by decide) ?_
  refine okk_some ⟨?_, IM_ix I _ (by decide)⟩
  rw [rdI, if_pos rfl]; exact hn
theorem okk_fm_point (I : IM g u) {p1 p2 : Int32} : okk (fm_point u p1 p2) (fun r => (((r.2.1 0).toInt = 1 ∧ ¬ (0 ≤ p1.toInt ∧ p1.toInt ≤ 7)) ∧ IM g r.2) ∨ (((r.2.1 0).toInt = 2 ∧ (0 ≤ p1.toInt ∧ p1.toInt ≤ 7) ∧ ¬ (0 ≤ p2.toInt ∧ p2.toInt ≤ 99999999)) ∧ IM g r.2) ∨ (((r.2.1 0).toInt = 3 ∧ (0 ≤ p1.toInt ∧ p1.toInt ≤ 7) ∧ (0 ≤ p2.toInt ∧ p2.toInt ≤ 99999999) ∧ 8 ≤ (g p1.toNatClampNeg).toInt) ∧ IM g r.2) ∨ (((r.2.1 0).toInt = 0 ∧ (0 ≤ p1.toInt ∧ p1.toInt ≤ 7) ∧ (0 ≤ p2.toInt ∧ p2.toInt ≤ 99999999) ∧ (g p1.toNatClampNeg).toInt ≤ 7) ∧ r.1 = g p1.toNatClampNeg + (1 : Int32) ∧ IM (upd g p1.toNatClampNeg (g p1.toNatClampNeg + (1 : Int32))) r.2)) := by
  unfold fm_point
  have t8 : (8 : Int32).toInt = 8 := by decide
  have eg := IM_g I p1.toNatClampNeg
  have r := IM_r5 I p1.toNatClampNeg
  rw [eg] at r
  refine okk_isRoad (fun b => ?_) (fun b => ?_)
  · refine okk_t (by decide) ?_
    unfold fm_point_13
    refine okk_isPoint (fun b2 => ?_) (fun b2 => ?_)
    · refine okk_t (by decide) ?_
      unfold fm_point_25
      refine okk_isRoad (fun _ => ?_) (fun b3 => absurd b3 (by omega))
      refine okk_f (by decide) ?_
      refine okk_isRoad (fun _ => ?_) (fun b3 => absurd b3 (by omega))
      refine okk_f (by decide) ?_
      unfold fm_point_48
      rw [eg]
      refine okk_ck (vp_I (by omega) (by omega)) ?_
      refine okk_ne (fun c cI => ?_) (fun c cI => ?_)
      · refine okk_mono (okk_mpt I (by omega) (by omega) (by omega)) (fun r hr => ?_)
        exact Or.inr (Or.inr (Or.inr ⟨⟨hr.1, b, b2, by omega⟩, hr.2.1, hr.2.2⟩))
      · refine okk_mono (okk_mpx I (fm_thr_3 u) (by decide : (3 : Int32).toInt = 3)) (fun r hr => ?_)
        exact Or.inr (Or.inr (Or.inl ⟨⟨hr.1, b, b2, by omega⟩, hr.2⟩))
    · refine okk_f (by decide) ?_
      unfold fm_point_25
      refine okk_isRoad (fun _ => ?_) (fun b3 => absurd b3 (by omega))
      refine okk_f (by decide) ?_
      refine okk_isRoad (fun _ => ?_) (fun b3 => absurd b3 (by omega))
      refine okk_f (by decide) ?_
      unfold fm_point_48
      rw [eg]
      refine okk_ck (vp_I (by omega) (by omega)) ?_
      refine okk_ne (fun c cI => ?_) (fun c cI => ?_)
      · refine okk_mono (okk_mpx I (fm_thr_2 u _) (by decide : (2 : Int32).toInt = 2)) (fun r hr => ?_)
        exact Or.inr (Or.inl ⟨⟨hr.1, b, by omega⟩, hr.2⟩)
      · refine okk_mono (okk_mpx I (fm_thr_2 u _) (by decide : (2 : Int32).toInt = 2)) (fun r hr => ?_)
        exact Or.inr (Or.inl ⟨⟨hr.1, b, by omega⟩, hr.2⟩)
  · refine okk_f (by decide) ?_
    unfold fm_point_13
    refine okk_isPoint (fun b2 => ?_) (fun b2 => ?_)
    · refine okk_t (by decide) ?_
      unfold fm_point_25
      refine okk_isRoad (fun b3 => absurd b3 (by omega)) (fun _ => ?_)
      refine okk_t (by decide) ?_
      refine okk_mono (okk_mpx I (fm_thr_1 u _ _) (by decide : (1 : Int32).toInt = 1)) (fun r hr => ?_)
      exact Or.inl ⟨⟨hr.1, by omega⟩, hr.2⟩
    · refine okk_f (by decide) ?_
      unfold fm_point_25
      refine okk_isRoad (fun b3 => absurd b3 (by omega)) (fun _ => ?_)
      refine okk_t (by decide) ?_
      refine okk_mono (okk_mpx I (fm_thr_1 u _ _) (by decide : (1 : Int32).toInt = 1)) (fun r hr => ?_)
      exact Or.inl ⟨⟨hr.1, by omega⟩, hr.2⟩
end HN3
end
section
set_option maxHeartbeats 4000000 in
theorem okk_fm_reason {g : Nat → Int32} {u : g_S} (I : IM g u) {p1 : Int32} {p2 : Int32} {p3 : Int32} {p4 : Int32} {p5 : Int32} {p6 : Int32} (h0 : 0 ≤ p2.toInt) (h1 : p2.toInt ≤ 7) : okk (fm_reason u p1 p2 p3 p4 p5 p6) (fun r => IM g r.2 ∧ (-1 ≤ r.1.toInt ∧ r.1.toInt < (u.1 1).toInt) ∧ ((r.2.1 1).toInt = (u.1 1).toInt) ∧ ((r.2.1 2).toInt = (u.1 2).toInt) ∧ r.2.2 = u.2) := by
  unfold fm_reason
  have z1_ := IM_s I
  have t3_ : (1 : Int32).toInt = (1 : Int) := (by decide : (1 : Int32).toInt = 1)
  refine okk_gl (fun u12_ eu12_ => ?_)
  have Iu12_ : IM g u12_ := by rw [eu12_]; exact IM_ix I _ (by decide)
  have z4_ : (u12_.1 0).toInt = (u.1 0).toInt := by rw [eu12_]; rfl
  have z5_ : (u12_.1 1).toInt = (u.1 1).toInt := by rw [eu12_]; rfl
  have z6_ : (u12_.1 2).toInt = (u.1 2).toInt := by rw [eu12_]; rfl
  have z7_ := IM_s Iu12_
  refine okk_bi (okk_fm_again Iu12_ (by omega) (by omega)) (fun v8_ hv8_ => ?_)
  have p9_ := hv8_
  try have t11_ : (0 : Int32).toInt = (0 : Int) := (by decide : (0 : Int32).toInt = 0)
  refine okk_lt (fun c10_ c10_I => ?_) (fun c10_ c10_I => ?_)
  · have t13_ : (2 : Int32).toInt = (2 : Int) := (by decide : (2 : Int32).toInt = 2)
    refine okk_gl (fun u312_ eu312_ => ?_)
    have Iu312_ : IM g u312_ := by rw [eu312_]; exact IM_ix Iu12_ _ (by decide)
    have z14_ : (u312_.1 0).toInt = (u12_.1 0).toInt := by rw [eu312_]; rfl
    have z15_ : (u312_.1 1).toInt = (u12_.1 1).toInt := by rw [eu312_]; rfl
    have z16_ : (u312_.1 2).toInt = (u12_.1 2).toInt := by rw [eu312_]; rfl
    have z17_ := IM_s Iu312_
    refine okk_bi (okk_fm_onStretch Iu312_) (fun v18_ hv18_ => ?_)
    have p19_ := hv18_
    refine okk_lt (fun c20_ c20_I => ?_) (fun c20_ c20_I => ?_)
    · have t22_ : (3 : Int32).toInt = (3 : Int) := (by decide : (3 : Int32).toInt = 3)
      refine okk_gl (fun u521_ eu521_ => ?_)
      have Iu521_ : IM g u521_ := by rw [eu521_]; exact IM_ix Iu312_ _ (by decide)
      have z23_ : (u521_.1 0).toInt = (u312_.1 0).toInt := by rw [eu521_]; rfl
      have z24_ : (u521_.1 1).toInt = (u312_.1 1).toInt := by rw [eu521_]; rfl
      have z25_ : (u521_.1 2).toInt = (u312_.1 2).toInt := by rw [eu521_]; rfl
      have z26_ := IM_s Iu521_
      refine okk_bi (okk_fm_agreeing Iu521_ (by omega) (by omega)) (fun v27_ hv27_ => ?_)
      have p28_ := hv27_
      refine okk_lt (fun c29_ c29_I => ?_) (fun c29_ c29_I => ?_)
      · have t31_ : (4 : Int32).toInt = (4 : Int) := (by decide : (4 : Int32).toInt = 4)
        refine okk_gl (fun u730_ eu730_ => ?_)
        have Iu730_ : IM g u730_ := by rw [eu730_]; exact IM_ix Iu521_ _ (by decide)
        have z32_ : (u730_.1 0).toInt = (u521_.1 0).toInt := by rw [eu730_]; rfl
        have z33_ : (u730_.1 1).toInt = (u521_.1 1).toInt := by rw [eu730_]; rfl
        have z34_ : (u730_.1 2).toInt = (u521_.1 2).toInt := by rw [eu730_]; rfl
        have z35_ := IM_s Iu730_
        refine okk_bi (okk_fm_agreeing Iu730_ (by omega) (by omega)) (fun v36_ hv36_ => ?_)
        have p37_ := hv36_
        refine okk_lt (fun c38_ c38_I => ?_) (fun c38_ c38_I => ?_)
        · refine okk_gl (fun u939_ eu939_ => ?_)
          have Iu939_ : IM g u939_ := by rw [eu939_]; exact IM_ix Iu730_ _ (by decide)
          have z40_ : (u939_.1 0).toInt = (u730_.1 0).toInt := by rw [eu939_]; rfl
          have z41_ : (u939_.1 1).toInt = (u730_.1 1).toInt := by rw [eu939_]; rfl
          have z42_ : (u939_.1 2).toInt = (u730_.1 2).toInt := by rw [eu939_]; rfl
          exact okk_some (⟨Iu939_, (by show -1 ≤ v36_.toInt ∧ v36_.toInt < (u.1 1).toInt; omega), (by show (u939_.1 1).toInt = (u.1 1).toInt; omega), (by show (u939_.1 2).toInt = (u.1 2).toInt; omega), (by show (u939_).2 = u.2; rw [eu939_, eu730_, eu521_, eu312_, eu12_]; rfl)⟩)
        · refine okk_gl (fun u1043_ eu1043_ => ?_)
          have Iu1043_ : IM g u1043_ := by rw [eu1043_]; exact IM_ix Iu730_ _ (by decide)
          have z44_ : (u1043_.1 0).toInt = (u730_.1 0).toInt := by rw [eu1043_]; rfl
          have z45_ : (u1043_.1 1).toInt = (u730_.1 1).toInt := by rw [eu1043_]; rfl
          have z46_ : (u1043_.1 2).toInt = (u730_.1 2).toInt := by rw [eu1043_]; rfl
          exact okk_some (⟨Iu1043_, (by show -1 ≤ v36_.toInt ∧ v36_.toInt < (u.1 1).toInt; omega), (by show (u1043_.1 1).toInt = (u.1 1).toInt; omega), (by show (u1043_.1 2).toInt = (u.1 2).toInt; omega), (by show (u1043_).2 = u.2; rw [eu1043_, eu730_, eu521_, eu312_, eu12_]; rfl)⟩)
      · exact okk_some (⟨Iu521_, (by show -1 ≤ v27_.toInt ∧ v27_.toInt < (u.1 1).toInt; omega), (by show (u521_.1 1).toInt = (u.1 1).toInt; omega), (by show (u521_.1 2).toInt = (u.1 2).toInt; omega), (by show (u521_).2 = u.2; rw [eu521_, eu312_, eu12_]; rfl)⟩)
    · exact okk_some (⟨Iu312_, (by show -1 ≤ v18_.toInt ∧ v18_.toInt < (u.1 1).toInt; omega), (by show (u312_.1 1).toInt = (u.1 1).toInt; omega), (by show (u312_.1 2).toInt = (u.1 2).toInt; omega), (by show (u312_).2 = u.2; rw [eu312_, eu12_]; rfl)⟩)
  · exact okk_some (⟨Iu12_, (by show -1 ≤ v8_.toInt ∧ v8_.toInt < (u.1 1).toInt; omega), (by show (u12_.1 1).toInt = (u.1 1).toInt; omega), (by show (u12_.1 2).toInt = (u.1 2).toInt; omega), (by show (u12_).2 = u.2; rw [eu12_]; rfl)⟩)
set_option maxHeartbeats 4000000 in
theorem okk_fm_call {g : Nat → Int32} {u : g_S} (I : IM g u) {p1 : Int32} {p2 : Int32} {p3 : Int32} {p4 : Int32} {p5 : Int32} {p6 : Int32} : okk (fm_call u p1 p2 p3 p4 p5 p6) (fun r => IM g r.2) := by
  unfold fm_call
  have z1_ := IM_s I
  refine okk_bi (okk_fm_isKnown ) (fun v2_ hv2_ => ?_)
  have p3_ := hv2_
  try have t5_ : (0 : Int32).toInt = (0 : Int) := (by decide : (0 : Int32).toInt = 0)
  refine okk_ne (fun c4_ c4_I => ?_) (fun c4_ c4_I => ?_)
  · unfold fm_call_15
    refine okk_bi (okk_fm_isRange I) (fun v6_ hv6_ => ?_)
    have p7_ := hv6_
    refine okk_ne (fun c8_ c8_I => ?_) (fun c8_ c8_I => ?_)
    · unfold fm_call_31
      try have t10_ : (120 : Int32).toInt = (120 : Int) := (by decide : (120 : Int32).toInt = 120)
      refine okk_ne (fun c9_ c9_I => ?_) (fun c9_ c9_I => ?_)
      · unfold fm_call_45
        obtain ⟨u11_, eu11_⟩ : ∃ y, y = g_sI u 0 (0 : Int32) := ⟨_, rfl⟩
        refine okk_bs (v := ((0 : Int32), u11_)) (by rw [eu11_]; exact fm_thr_0 _) ?_
        dsimp only
        have Iu11_ : IM g u11_ := by rw [eu11_]; exact IM_ix I _ (by decide)
        have h012_ : (u11_.1 0).toInt = 0 := by rw [eu11_, rdI, if_pos rfl]; decide
        have z13_ : (u11_.1 1).toInt = (u.1 1).toInt := by rw [eu11_]; rfl
        have z14_ : (u11_.1 2).toInt = (u.1 2).toInt := by rw [eu11_]; rfl
        refine okk_t (by decide) ?_
        have z15_ := IM_s Iu11_
        refine okk_bi (okk_fm_reason Iu11_ (by omega) (by omega)) (fun v16_ hv16_ => ?_)
        obtain ⟨p17_, p18_, p19_, p20_, p21_⟩ := hv16_
        refine okk_le (fun c22_ c22_I => ?_) (fun c22_ c22_I => ?_)
        · have z23_ := IM_s p17_
          exact okk_call90 p17_ (by omega) (by omega) (by omega) (by omega) (by omega) (by omega)
        · try have t25_ : (60 : Int32).toInt = (60 : Int) := (by decide : (60 : Int32).toInt = 60)
          refine okk_ne (fun c24_ c24_I => ?_) (fun c24_ c24_I => ?_)
          · have z26_ := IM_s p17_
            exact okk_call90 p17_ (by omega) (by omega) (by omega) (by omega) (by omega) (by omega)
          · unfold fm_call_90
            obtain ⟨u27_, eu27_⟩ : ∃ y, y = g_sI v16_.2 0 (3 : Int32) := ⟨_, rfl⟩
            refine okk_bs (v := ((1 : Int32), u27_)) (by rw [eu27_]; exact fm_thr_3 _) ?_
            dsimp only
            have Iu27_ : IM g u27_ := by rw [eu27_]; exact IM_ix p17_ _ (by decide)
            have h028_ : (u27_.1 0).toInt = 3 := by rw [eu27_, rdI, if_pos rfl]; decide
            have z29_ : (u27_.1 1).toInt = (v16_.2.1 1).toInt := by rw [eu27_]; rfl
            have z30_ : (u27_.1 2).toInt = (v16_.2.1 2).toInt := by rw [eu27_]; rfl
            refine okk_f (by decide) ?_
            exact okk_some (Iu27_)
      · unfold fm_call_45
        obtain ⟨u31_, eu31_⟩ : ∃ y, y = g_sI u 0 (3 : Int32) := ⟨_, rfl⟩
        refine okk_bs (v := ((1 : Int32), u31_)) (by rw [eu31_]; exact fm_thr_3 _) ?_
        dsimp only
        have Iu31_ : IM g u31_ := by rw [eu31_]; exact IM_ix I _ (by decide)
        have h032_ : (u31_.1 0).toInt = 3 := by rw [eu31_, rdI, if_pos rfl]; decide
        have z33_ : (u31_.1 1).toInt = (u.1 1).toInt := by rw [eu31_]; rfl
        have z34_ : (u31_.1 2).toInt = (u.1 2).toInt := by rw [eu31_]; rfl
        refine okk_f (by decide) ?_
        exact okk_some (Iu31_)
    · unfold fm_call_31
      try have t36_ : (120 : Int32).toInt = (120 : Int) := (by decide : (120 : Int32).toInt = 120)
      refine okk_ne (fun c35_ c35_I => ?_) (fun c35_ c35_I => ?_)
      · unfold fm_call_45
        obtain ⟨u37_, eu37_⟩ : ∃ y, y = g_sI u 0 (2 : Int32) := ⟨_, rfl⟩
        refine okk_bs (v := ((1 : Int32), u37_)) (by rw [eu37_]; exact fm_thr_2 _ _) ?_
        dsimp only
        have Iu37_ : IM g u37_ := by rw [eu37_]; exact IM_ix I _ (by decide)
        have h038_ : (u37_.1 0).toInt = 2 := by rw [eu37_, rdI, if_pos rfl]; decide
        have z39_ : (u37_.1 1).toInt = (u.1 1).toInt := by rw [eu37_]; rfl
        have z40_ : (u37_.1 2).toInt = (u.1 2).toInt := by rw [eu37_]; rfl
        refine okk_f (by decide) ?_
        exact okk_some (Iu37_)
      · unfold fm_call_45
        obtain ⟨u41_, eu41_⟩ : ∃ y, y = g_sI u 0 (2 : Int32) := ⟨_, rfl⟩
        refine okk_bs (v := ((1 : Int32), u41_)) (by rw [eu41_]; exact fm_thr_2 _ _) ?_
        dsimp only
        have Iu41_ : IM g u41_ := by rw [eu41_]; exact IM_ix I _ (by decide)
        have h042_ : (u41_.1 0).toInt = 2 := by rw [eu41_, rdI, if_pos rfl]; decide
        have z43_ : (u41_.1 1).toInt = (u.1 1).toInt := by rw [eu41_]; rfl
        have z44_ : (u41_.1 2).toInt = (u.1 2).toInt := by rw [eu41_]; rfl
        refine okk_f (by decide) ?_
        exact okk_some (Iu41_)
  · unfold fm_call_15
    refine okk_bi (okk_fm_isRange I) (fun v45_ hv45_ => ?_)
    have p46_ := hv45_
    refine okk_ne (fun c47_ c47_I => ?_) (fun c47_ c47_I => ?_)
    · unfold fm_call_31
      try have t49_ : (120 : Int32).toInt = (120 : Int) := (by decide : (120 : Int32).toInt = 120)
      refine okk_ne (fun c48_ c48_I => ?_) (fun c48_ c48_I => ?_)
      · unfold fm_call_45
        obtain ⟨u50_, eu50_⟩ : ∃ y, y = g_sI u 0 (1 : Int32) := ⟨_, rfl⟩
        refine okk_bs (v := ((1 : Int32), u50_)) (by rw [eu50_]; exact fm_thr_1 _ _ _) ?_
        dsimp only
        have Iu50_ : IM g u50_ := by rw [eu50_]; exact IM_ix I _ (by decide)
        have h051_ : (u50_.1 0).toInt = 1 := by rw [eu50_, rdI, if_pos rfl]; decide
        have z52_ : (u50_.1 1).toInt = (u.1 1).toInt := by rw [eu50_]; rfl
        have z53_ : (u50_.1 2).toInt = (u.1 2).toInt := by rw [eu50_]; rfl
        refine okk_f (by decide) ?_
        exact okk_some (Iu50_)
      · unfold fm_call_45
        obtain ⟨u54_, eu54_⟩ : ∃ y, y = g_sI u 0 (1 : Int32) := ⟨_, rfl⟩
        refine okk_bs (v := ((1 : Int32), u54_)) (by rw [eu54_]; exact fm_thr_1 _ _ _) ?_
        dsimp only
        have Iu54_ : IM g u54_ := by rw [eu54_]; exact IM_ix I _ (by decide)
        have h055_ : (u54_.1 0).toInt = 1 := by rw [eu54_, rdI, if_pos rfl]; decide
        have z56_ : (u54_.1 1).toInt = (u.1 1).toInt := by rw [eu54_]; rfl
        have z57_ : (u54_.1 2).toInt = (u.1 2).toInt := by rw [eu54_]; rfl
        refine okk_f (by decide) ?_
        exact okk_some (Iu54_)
    · unfold fm_call_31
      try have t59_ : (120 : Int32).toInt = (120 : Int) := (by decide : (120 : Int32).toInt = 120)
      refine okk_ne (fun c58_ c58_I => ?_) (fun c58_ c58_I => ?_)
      · unfold fm_call_45
        obtain ⟨u60_, eu60_⟩ : ∃ y, y = g_sI u 0 (1 : Int32) := ⟨_, rfl⟩
        refine okk_bs (v := ((1 : Int32), u60_)) (by rw [eu60_]; exact fm_thr_1 _ _ _) ?_
        dsimp only
        have Iu60_ : IM g u60_ := by rw [eu60_]; exact IM_ix I _ (by decide)
        have h061_ : (u60_.1 0).toInt = 1 := by rw [eu60_, rdI, if_pos rfl]; decide
        have z62_ : (u60_.1 1).toInt = (u.1 1).toInt := by rw [eu60_]; rfl
        have z63_ : (u60_.1 2).toInt = (u.1 2).toInt := by rw [eu60_]; rfl
        refine okk_f (by decide) ?_
        exact okk_some (Iu60_)
      · unfold fm_call_45
        obtain ⟨u64_, eu64_⟩ : ∃ y, y = g_sI u 0 (1 : Int32) := ⟨_, rfl⟩
        refine okk_bs (v := ((1 : Int32), u64_)) (by rw [eu64_]; exact fm_thr_1 _ _ _) ?_
        dsimp only
        have Iu64_ : IM g u64_ := by rw [eu64_]; exact IM_ix I _ (by decide)
        have h065_ : (u64_.1 0).toInt = 1 := by rw [eu64_, rdI, if_pos rfl]; decide
        have z66_ : (u64_.1 1).toInt = (u.1 1).toInt := by rw [eu64_]; rfl
        have z67_ : (u64_.1 2).toInt = (u.1 2).toInt := by rw [eu64_]; rfl
        refine okk_f (by decide) ?_
        exact okk_some (Iu64_)
set_option maxHeartbeats 4000000 in
theorem okk_fm_split {g : Nat → Int32} {u : g_S} (I : IM g u) {p1 : Int32} : okk (fm_split u p1) (fun r => IM g r.2) := by
  unfold fm_split
  have z1_ := IM_s I
  refine okk_isCall (fun b2_ => ?_) (fun b2_ => ?_)
  · have t3_ : ((u.1 1) - (1 : Int32)).toInt = ((u.1 1).toInt - (1 : Int)) := (oi_sub (a := (u.1 1)) (b := (1 : Int32)) rfl (by decide : (1 : Int32).toInt = 1) (by omega) (by omega))
    refine okk_f (by decide) ?_
    refine okk_ck (vp_I (by omega) (by omega)) ?_
    have r5_ := IM_r13 I p1.toNatClampNeg
    try have t6_ : (0 : Int32).toInt = (0 : Int) := (by decide : (0 : Int32).toInt = 0)
    refine okk_lt (fun c4_ c4_I => ?_) (fun c4_ c4_I => ?_)
    · unfold fm_split_32
      refine okk_t (by decide) ?_
      refine okk_f (by decide) ?_
      unfold fm_split_52
      try have t8_ : (60 : Int32).toInt = (60 : Int) := (by decide : (60 : Int32).toInt = 60)
      refine okk_ne (fun c7_ c7_I => ?_) (fun c7_ c7_I => ?_)
      · unfold fm_split_66
        obtain ⟨u9_, eu9_⟩ : ∃ y, y = g_sI u 0 (2 : Int32) := ⟨_, rfl⟩
        refine okk_bs (v := ((1 : Int32), u9_)) (by rw [eu9_]; exact fm_thr_2 _ _) ?_
        dsimp only
        have Iu9_ : IM g u9_ := by rw [eu9_]; exact IM_ix I _ (by decide)
        have h010_ : (u9_.1 0).toInt = 2 := by rw [eu9_, rdI, if_pos rfl]; decide
        have z11_ : (u9_.1 1).toInt = (u.1 1).toInt := by rw [eu9_]; rfl
        have z12_ : (u9_.1 2).toInt = (u.1 2).toInt := by rw [eu9_]; rfl
        refine okk_f (by decide) ?_
        exact okk_some (Iu9_)
      · unfold fm_split_66
        obtain ⟨u13_, eu13_⟩ : ∃ y, y = g_sI u 0 (2 : Int32) := ⟨_, rfl⟩
        refine okk_bs (v := ((1 : Int32), u13_)) (by rw [eu13_]; exact fm_thr_2 _ _) ?_
        dsimp only
        have Iu13_ : IM g u13_ := by rw [eu13_]; exact IM_ix I _ (by decide)
        have h014_ : (u13_.1 0).toInt = 2 := by rw [eu13_, rdI, if_pos rfl]; decide
        have z15_ : (u13_.1 1).toInt = (u.1 1).toInt := by rw [eu13_]; rfl
        have z16_ : (u13_.1 2).toInt = (u.1 2).toInt := by rw [eu13_]; rfl
        refine okk_f (by decide) ?_
        exact okk_some (Iu13_)
    · refine okk_bi (okk_fm_isOpen I (by omega) (by omega)) (fun v17_ hv17_ => ?_)
      have p18_ := hv17_
      refine okk_eq (fun c19_ c19_I => ?_) (fun c19_ c19_I => ?_)
      · unfold fm_split_32
        refine okk_t (by decide) ?_
        refine okk_f (by decide) ?_
        unfold fm_split_52
        try have t21_ : (60 : Int32).toInt = (60 : Int) := (by decide : (60 : Int32).toInt = 60)
        refine okk_ne (fun c20_ c20_I => ?_) (fun c20_ c20_I => ?_)
        · unfold fm_split_66
          obtain ⟨u22_, eu22_⟩ : ∃ y, y = g_sI u 0 (2 : Int32) := ⟨_, rfl⟩
          refine okk_bs (v := ((1 : Int32), u22_)) (by rw [eu22_]; exact fm_thr_2 _ _) ?_
          dsimp only
          have Iu22_ : IM g u22_ := by rw [eu22_]; exact IM_ix I _ (by decide)
          have h023_ : (u22_.1 0).toInt = 2 := by rw [eu22_, rdI, if_pos rfl]; decide
          have z24_ : (u22_.1 1).toInt = (u.1 1).toInt := by rw [eu22_]; rfl
          have z25_ : (u22_.1 2).toInt = (u.1 2).toInt := by rw [eu22_]; rfl
          refine okk_f (by decide) ?_
          exact okk_some (Iu22_)
        · unfold fm_split_66
          obtain ⟨u26_, eu26_⟩ : ∃ y, y = g_sI u 0 (2 : Int32) := ⟨_, rfl⟩
          refine okk_bs (v := ((1 : Int32), u26_)) (by rw [eu26_]; exact fm_thr_2 _ _) ?_
          dsimp only
          have Iu26_ : IM g u26_ := by rw [eu26_]; exact IM_ix I _ (by decide)
          have h027_ : (u26_.1 0).toInt = 2 := by rw [eu26_, rdI, if_pos rfl]; decide
          have z28_ : (u26_.1 1).toInt = (u.1 1).toInt := by rw [eu26_]; rfl
          have z29_ : (u26_.1 2).toInt = (u.1 2).toInt := by rw [eu26_]; rfl
          refine okk_f (by decide) ?_
          exact okk_some (Iu26_)
      · unfold fm_split_32
        refine okk_t (by decide) ?_
        refine okk_t (by decide) ?_
        unfold fm_split_52
        try have t31_ : (60 : Int32).toInt = (60 : Int) := (by decide : (60 : Int32).toInt = 60)
        refine okk_ne (fun c30_ c30_I => ?_) (fun c30_ c30_I => ?_)
        · exact okk_split66 I (by omega) (by omega) (by omega) (by omega)
        · unfold fm_split_66
          obtain ⟨u32_, eu32_⟩ : ∃ y, y = g_sI u 0 (3 : Int32) := ⟨_, rfl⟩
          refine okk_bs (v := ((1 : Int32), u32_)) (by rw [eu32_]; exact fm_thr_3 _) ?_
          dsimp only
          have Iu32_ : IM g u32_ := by rw [eu32_]; exact IM_ix I _ (by decide)
          have h033_ : (u32_.1 0).toInt = 3 := by rw [eu32_, rdI, if_pos rfl]; decide
          have z34_ : (u32_.1 1).toInt = (u.1 1).toInt := by rw [eu32_]; rfl
          have z35_ : (u32_.1 2).toInt = (u.1 2).toInt := by rw [eu32_]; rfl
          refine okk_f (by decide) ?_
          exact okk_some (Iu32_)
  · have t36_ : ((u.1 1) - (1 : Int32)).toInt = ((u.1 1).toInt - (1 : Int)) := (oi_sub (a := (u.1 1)) (b := (1 : Int32)) rfl (by decide : (1 : Int32).toInt = 1) (by omega) (by omega))
    refine okk_t (by decide) ?_
    unfold fm_split_32
    refine okk_f (by decide) ?_
    refine okk_f (by decide) ?_
    unfold fm_split_52
    try have t38_ : (60 : Int32).toInt = (60 : Int) := (by decide : (60 : Int32).toInt = 60)
    refine okk_ne (fun c37_ c37_I => ?_) (fun c37_ c37_I => ?_)
    · unfold fm_split_66
      obtain ⟨u39_, eu39_⟩ : ∃ y, y = g_sI u 0 (1 : Int32) := ⟨_, rfl⟩
      refine okk_bs (v := ((1 : Int32), u39_)) (by rw [eu39_]; exact fm_thr_1 _ _ _) ?_
      dsimp only
      have Iu39_ : IM g u39_ := by rw [eu39_]; exact IM_ix I _ (by decide)
      have h040_ : (u39_.1 0).toInt = 1 := by rw [eu39_, rdI, if_pos rfl]; decide
      have z41_ : (u39_.1 1).toInt = (u.1 1).toInt := by rw [eu39_]; rfl
      have z42_ : (u39_.1 2).toInt = (u.1 2).toInt := by rw [eu39_]; rfl
      refine okk_f (by decide) ?_
      exact okk_some (Iu39_)
    · unfold fm_split_66
      obtain ⟨u43_, eu43_⟩ : ∃ y, y = g_sI u 0 (1 : Int32) := ⟨_, rfl⟩
      refine okk_bs (v := ((1 : Int32), u43_)) (by rw [eu43_]; exact fm_thr_1 _ _ _) ?_
      dsimp only
      have Iu43_ : IM g u43_ := by rw [eu43_]; exact IM_ix I _ (by decide)
      have h044_ : (u43_.1 0).toInt = 1 := by rw [eu43_, rdI, if_pos rfl]; decide
      have z45_ : (u43_.1 1).toInt = (u.1 1).toInt := by rw [eu43_]; rfl
      have z46_ : (u43_.1 2).toInt = (u.1 2).toInt := by rw [eu43_]; rfl
      refine okk_f (by decide) ?_
      exact okk_some (Iu43_)
set_option maxHeartbeats 4000000 in
theorem okk_fm_merge {g : Nat → Int32} {u : g_S} (I : IM g u) {p1 : Int32} {p2 : Int32} : okk (fm_merge u p1 p2) (fun r => IM g r.2) := by
  unfold fm_merge
  have z1_ := IM_s I
  refine okk_isEvent (fun b2_ => ?_) (fun b2_ => ?_)
  · have t3_ : ((u.1 2) - (1 : Int32)).toInt = ((u.1 2).toInt - (1 : Int)) := (oi_sub (a := (u.1 2)) (b := (1 : Int32)) rfl (by decide : (1 : Int32).toInt = 1) (by omega) (by omega))
    refine okk_f (by decide) ?_
    refine okk_isCall (fun b4_ => ?_) (fun b4_ => ?_)
    · have t5_ : ((u.1 1) - (1 : Int32)).toInt = ((u.1 1).toInt - (1 : Int)) := (oi_sub (a := (u.1 1)) (b := (1 : Int32)) rfl (by decide : (1 : Int32).toInt = 1) (by omega) (by omega))
      refine okk_f (by decide) ?_
      unfold fm_merge_21
      refine okk_f (by decide) ?_
      refine okk_ck (vp_I (by omega) (by omega)) ?_
      try have t7_ : (0 : Int32).toInt = (0 : Int) := (by decide : (0 : Int32).toInt = 0)
      refine okk_ne (fun c6_ c6_I => ?_) (fun c6_ c6_I => ?_)
      · unfold fm_merge_58
        refine okk_t (by decide) ?_
        refine okk_f (by decide) ?_
        unfold fm_merge_80
        obtain ⟨u8_, eu8_⟩ : ∃ y, y = g_sI u 0 (2 : Int32) := ⟨_, rfl⟩
        refine okk_bs (v := ((1 : Int32), u8_)) (by rw [eu8_]; exact fm_thr_2 _ _) ?_
        dsimp only
        have Iu8_ : IM g u8_ := by rw [eu8_]; exact IM_ix I _ (by decide)
        have h09_ : (u8_.1 0).toInt = 2 := by rw [eu8_, rdI, if_pos rfl]; decide
        have z10_ : (u8_.1 1).toInt = (u.1 1).toInt := by rw [eu8_]; rfl
        have z11_ : (u8_.1 2).toInt = (u.1 2).toInt := by rw [eu8_]; rfl
        refine okk_f (by decide) ?_
        exact okk_some (Iu8_)
      · refine okk_bi (okk_fm_isOpen I (by omega) (by omega)) (fun v12_ hv12_ => ?_)
        have p13_ := hv12_
        refine okk_eq (fun c14_ c14_I => ?_) (fun c14_ c14_I => ?_)
        · unfold fm_merge_58
          refine okk_t (by decide) ?_
          refine okk_f (by decide) ?_
          unfold fm_merge_80
          obtain ⟨u15_, eu15_⟩ : ∃ y, y = g_sI u 0 (2 : Int32) := ⟨_, rfl⟩
          refine okk_bs (v := ((1 : Int32), u15_)) (by rw [eu15_]; exact fm_thr_2 _ _) ?_
          dsimp only
          have Iu15_ : IM g u15_ := by rw [eu15_]; exact IM_ix I _ (by decide)
          have h016_ : (u15_.1 0).toInt = 2 := by rw [eu15_, rdI, if_pos rfl]; decide
          have z17_ : (u15_.1 1).toInt = (u.1 1).toInt := by rw [eu15_]; rfl
          have z18_ : (u15_.1 2).toInt = (u.1 2).toInt := by rw [eu15_]; rfl
          refine okk_f (by decide) ?_
          exact okk_some (Iu15_)
        · refine okk_ck (vp_I (by omega) (by omega)) ?_
          have r20_ := IM_r12 I p2.toNatClampNeg
          refine okk_eq (fun c19_ c19_I => ?_) (fun c19_ c19_I => ?_)
          · unfold fm_merge_58
            refine okk_t (by decide) ?_
            refine okk_f (by decide) ?_
            unfold fm_merge_80
            obtain ⟨u21_, eu21_⟩ : ∃ y, y = g_sI u 0 (2 : Int32) := ⟨_, rfl⟩
            refine okk_bs (v := ((1 : Int32), u21_)) (by rw [eu21_]; exact fm_thr_2 _ _) ?_
            dsimp only
            have Iu21_ : IM g u21_ := by rw [eu21_]; exact IM_ix I _ (by decide)
            have h022_ : (u21_.1 0).toInt = 2 := by rw [eu21_, rdI, if_pos rfl]; decide
            have z23_ : (u21_.1 1).toInt = (u.1 1).toInt := by rw [eu21_]; rfl
            have z24_ : (u21_.1 2).toInt = (u.1 2).toInt := by rw [eu21_]; rfl
            refine okk_f (by decide) ?_
            exact okk_some (Iu21_)
          · unfold fm_merge_58
            refine okk_t (by decide) ?_
            refine okk_t (by decide) ?_
            exact okk_merge80 I (by omega) (by omega) c6_ (by omega) (by omega) c19_
    · have t25_ : ((u.1 1) - (1 : Int32)).toInt = ((u.1 1).toInt - (1 : Int)) := (oi_sub (a := (u.1 1)) (b := (1 : Int32)) rfl (by decide : (1 : Int32).toInt = 1) (by omega) (by omega))
      refine okk_t (by decide) ?_
      unfold fm_merge_21
      refine okk_t (by decide) ?_
      unfold fm_merge_58
      refine okk_f (by decide) ?_
      refine okk_f (by decide) ?_
      unfold fm_merge_80
      obtain ⟨u26_, eu26_⟩ : ∃ y, y = g_sI u 0 (1 : Int32) := ⟨_, rfl⟩
      refine okk_bs (v := ((1 : Int32), u26_)) (by rw [eu26_]; exact fm_thr_1 _ _ _) ?_
      dsimp only
      have Iu26_ : IM g u26_ := by rw [eu26_]; exact IM_ix I _ (by decide)
      have h027_ : (u26_.1 0).toInt = 1 := by rw [eu26_, rdI, if_pos rfl]; decide
      have z28_ : (u26_.1 1).toInt = (u.1 1).toInt := by rw [eu26_]; rfl
      have z29_ : (u26_.1 2).toInt = (u.1 2).toInt := by rw [eu26_]; rfl
      refine okk_f (by decide) ?_
      exact okk_some (Iu26_)
  · have t30_ : ((u.1 2) - (1 : Int32)).toInt = ((u.1 2).toInt - (1 : Int)) := (oi_sub (a := (u.1 2)) (b := (1 : Int32)) rfl (by decide : (1 : Int32).toInt = 1) (by omega) (by omega))
    refine okk_t (by decide) ?_
    unfold fm_merge_21
    refine okk_t (by decide) ?_
    unfold fm_merge_58
    refine okk_f (by decide) ?_
    refine okk_f (by decide) ?_
    unfold fm_merge_80
    obtain ⟨u31_, eu31_⟩ : ∃ y, y = g_sI u 0 (1 : Int32) := ⟨_, rfl⟩
    refine okk_bs (v := ((1 : Int32), u31_)) (by rw [eu31_]; exact fm_thr_1 _ _ _) ?_
    dsimp only
    have Iu31_ : IM g u31_ := by rw [eu31_]; exact IM_ix I _ (by decide)
    have h032_ : (u31_.1 0).toInt = 1 := by rw [eu31_, rdI, if_pos rfl]; decide
    have z33_ : (u31_.1 1).toInt = (u.1 1).toInt := by rw [eu31_]; rfl
    have z34_ : (u31_.1 2).toInt = (u.1 2).toInt := by rw [eu31_]; rfl
    refine okk_f (by decide) ?_
    exact okk_some (Iu31_)
set_option maxHeartbeats 4000000 in
theorem okk_fm_reasonFor {g : Nat → Int32} {u : g_S} (I : IM g u) {p1 : Int32} {p2 : Int32} {p3 : Int32} {p4 : Int32} {p5 : Int32} {p6 : Int32} : okk (fm_reasonFor u p1 p2 p3 p4 p5 p6) (fun r => IM g r.2) := by
  unfold fm_reasonFor
  have z1_ := IM_s I
  refine okk_bi (okk_fm_isKnown ) (fun v2_ hv2_ => ?_)
  have p3_ := hv2_
  try have t5_ : (0 : Int32).toInt = (0 : Int) := (by decide : (0 : Int32).toInt = 0)
  refine okk_ne (fun c4_ c4_I => ?_) (fun c4_ c4_I => ?_)
  · unfold fm_reasonFor_15
    refine okk_bi (okk_fm_isRange I) (fun v6_ hv6_ => ?_)
    have p7_ := hv6_
    refine okk_ne (fun c8_ c8_I => ?_) (fun c8_ c8_I => ?_)
    · unfold fm_reasonFor_31
      obtain ⟨u9_, eu9_⟩ : ∃ y, y = g_sI u 0 (0 : Int32) := ⟨_, rfl⟩
      refine okk_bs (v := ((0 : Int32), u9_)) (by rw [eu9_]; exact fm_thr_0 _) ?_
      dsimp only
      have Iu9_ : IM g u9_ := by rw [eu9_]; exact IM_ix I _ (by decide)
      have h010_ : (u9_.1 0).toInt = 0 := by rw [eu9_, rdI, if_pos rfl]; decide
      have z11_ : (u9_.1 1).toInt = (u.1 1).toInt := by rw [eu9_]; rfl
      have z12_ : (u9_.1 2).toInt = (u.1 2).toInt := by rw [eu9_]; rfl
      refine okk_t (by decide) ?_
      have z13_ := IM_s Iu9_
      refine okk_bi (okk_fm_reason Iu9_ (by omega) (by omega)) (fun v14_ hv14_ => ?_)
      obtain ⟨p15_, p16_, p17_, p18_, p19_⟩ := hv14_
      exact okk_some (p15_)
    · unfold fm_reasonFor_31
      obtain ⟨u20_, eu20_⟩ : ∃ y, y = g_sI u 0 (2 : Int32) := ⟨_, rfl⟩
      refine okk_bs (v := ((1 : Int32), u20_)) (by rw [eu20_]; exact fm_thr_2 _ _) ?_
      dsimp only
      have Iu20_ : IM g u20_ := by rw [eu20_]; exact IM_ix I _ (by decide)
      have h021_ : (u20_.1 0).toInt = 2 := by rw [eu20_, rdI, if_pos rfl]; decide
      have z22_ : (u20_.1 1).toInt = (u.1 1).toInt := by rw [eu20_]; rfl
      have z23_ : (u20_.1 2).toInt = (u.1 2).toInt := by rw [eu20_]; rfl
      refine okk_f (by decide) ?_
      exact okk_some (Iu20_)
  · unfold fm_reasonFor_15
    refine okk_bi (okk_fm_isRange I) (fun v24_ hv24_ => ?_)
    have p25_ := hv24_
    refine okk_ne (fun c26_ c26_I => ?_) (fun c26_ c26_I => ?_)
    · unfold fm_reasonFor_31
      obtain ⟨u27_, eu27_⟩ : ∃ y, y = g_sI u 0 (1 : Int32) := ⟨_, rfl⟩
      refine okk_bs (v := ((1 : Int32), u27_)) (by rw [eu27_]; exact fm_thr_1 _ _ _) ?_
      dsimp only
      have Iu27_ : IM g u27_ := by rw [eu27_]; exact IM_ix I _ (by decide)
      have h028_ : (u27_.1 0).toInt = 1 := by rw [eu27_, rdI, if_pos rfl]; decide
      have z29_ : (u27_.1 1).toInt = (u.1 1).toInt := by rw [eu27_]; rfl
      have z30_ : (u27_.1 2).toInt = (u.1 2).toInt := by rw [eu27_]; rfl
      refine okk_f (by decide) ?_
      exact okk_some (Iu27_)
    · unfold fm_reasonFor_31
      obtain ⟨u31_, eu31_⟩ : ∃ y, y = g_sI u 0 (1 : Int32) := ⟨_, rfl⟩
      refine okk_bs (v := ((1 : Int32), u31_)) (by rw [eu31_]; exact fm_thr_1 _ _ _) ?_
      dsimp only
      have Iu31_ : IM g u31_ := by rw [eu31_]; exact IM_ix I _ (by decide)
      have h032_ : (u31_.1 0).toInt = 1 := by rw [eu31_, rdI, if_pos rfl]; decide
      have z33_ : (u31_.1 1).toInt = (u.1 1).toInt := by rw [eu31_]; rfl
      have z34_ : (u31_.1 2).toInt = (u.1 2).toInt := by rw [eu31_]; rfl
      refine okk_f (by decide) ?_
      exact okk_some (Iu31_)
end
section
def bt (x : Int32) (i : Nat) : Bool := x.toBitVec.getLsbD i
theorem b_ext {x y : Int32} (h : ∀ i, i < 32 → bt x i = bt y i) : x = y := Int32.toBitVec_inj.mp (BitVec.eq_of_getLsbD_eq (fun i hi => h i hi))
theorem b_or (x y : Int32) (i : Nat) : bt (x ||| y) i = (bt x i || bt y i) := by unfold bt; rw [Int32.toBitVec_or, BitVec.getLsbD_or]
theorem b_and (x y : Int32) (i : Nat) : bt (x &&& y) i = (bt x i && bt y i) := by unfold bt; rw [Int32.toBitVec_and, BitVec.getLsbD_and]
theorem b_xor (x y : Int32) (i : Nat) : bt (x ^^^ y) i = (bt x i ^^ bt y i) := by unfold bt; rw [Int32.toBitVec_xor, BitVec.getLsbD_xor]
theorem b_big {x : Int32} {i : Nat} (h : 32 ≤ i) : bt x i = false := BitVec.getLsbD_of_ge _ _ h
theorem b_255 (i : Nat) : bt 255 i = decide (i < 8) := by
  rcases Nat.lt_or_ge i 32 with h | h
  · exact (by decide +kernel : ∀ i, i < 32 → bt 255 i = decide (i < 8)) i h
  · rw [b_big h, decide_eq_false (by omega)]
theorem b_65535 (i : Nat) : bt 65535 i = decide (i < 16) := by
  rcases Nat.lt_or_ge i 32 with h | h
  · exact (by decide +kernel : ∀ i, i < 32 → bt 65535 i = decide (i < 16)) i h
  · rw [b_big h, decide_eq_false (by omega)]
theorem b_m1 : ∀ i, i < 32 → bt (-1) i = true := by decide +kernel
theorem b_0 (i : Nat) : bt 0 i = false := BitVec.getLsbD_zero
theorem s_l : ∀ n, n < 32 → ((nI n &&& 31).toBitVec.smod 32).toNat = n := by decide +kernel
theorem s_u : ∀ n, n < 32 → (((nI n).toUInt32 &&& Int32.toUInt32 31).toBitVec % 32).toNat = n := by decide +kernel
theorem b_shl (n : Nat) (hn : n < 32) (x : Int32) {i : Nat} (hi : i < 32) : bt (x <<< (nI n &&& 31)) i = (decide (n ≤ i) && bt x (i - n)) := by
  unfold bt
  rw [Int32.toBitVec_shiftLeft]
  show (x.toBitVec <<< ((nI n &&& 31).toBitVec.smod 32).toNat).getLsbD i = _
  rw [s_l n hn, BitVec.getLsbD_shiftLeft]
  rcases Nat.lt_or_ge i n with h | h
  · simp [h, Nat.not_le.mpr h]
  · simp [hi, h, Nat.not_lt.mpr h]
theorem b_ushr (n : Nat) (hn : n < 32) (x : Int32) (i : Nat) : bt ((x.toUInt32 >>> ((nI n).toUInt32 &&& Int32.toUInt32 31)).toInt32) i = bt x (n + i) := by
  show (x.toUInt32 >>> ((nI n).toUInt32 &&& Int32.toUInt32 31)).toBitVec.getLsbD i = x.toUInt32.toBitVec.getLsbD (n + i)
  rw [UInt32.toBitVec_shiftRight]
  show (x.toUInt32.toBitVec >>> (((nI n).toUInt32 &&& Int32.toUInt32 31).toBitVec % 32).toNat).getLsbD i = _
  rw [s_u n hn, BitVec.getLsbD_ushiftRight]
theorem b_sshr (n : Nat) (hn : n < 32) (x : Int32) {i : Nat} (hi : i < 32) : bt (x >>> (nI n &&& 31)) i = if n + i < 32 then bt x (n + i) else bt x 31 := by
  unfold bt
  rw [Int32.toBitVec_shiftRight]
  show (x.toBitVec.sshiftRight ((nI n &&& 31).toBitVec.smod 32).toNat).getLsbD i = _
  rw [s_l n hn, BitVec.getLsbD_sshiftRight, BitVec.msb_eq_getLsbD_last]
  simp [hi]
theorem b_shl8 (x : Int32) {i : Nat} (hi : i < 32) : bt (x <<< ((8 : Int32) &&& 31)) i = (decide (8 ≤ i) && bt x (i - 8)) := b_shl 8 (by omega) x hi
theorem b_shl16 (x : Int32) {i : Nat} (hi : i < 32) : bt (x <<< ((16 : Int32) &&& 31)) i = (decide (16 ≤ i) && bt x (i - 16)) := b_shl 16 (by omega) x hi
theorem b_shl24 (x : Int32) {i : Nat} (hi : i < 32) : bt (x <<< ((24 : Int32) &&& 31)) i = (decide (24 ≤ i) && bt x (i - 24)) := b_shl 24 (by omega) x hi
theorem b_sshr8 (x : Int32) {i : Nat} (hi : i < 32) : bt (x >>> ((8 : Int32) &&& 31)) i = if 8 + i < 32 then bt x (8 + i) else bt x 31 := b_sshr 8 (by omega) x hi
end
section
theorem bit0 (r : Int32) : (r &&& (1 : Int32)) = (1 : Int32) ↔ bt r 0 = true := by
  have h1 : ∀ i, i < 32 → bt (1 : Int32) i = decide (i = 0) := by decide +kernel
  constructor
  · intro h
    have e : bt (r &&& (1 : Int32)) 0 = true := by rw [h]; decide
    rw [b_and] at e
    exact (Bool.and_eq_true _ _ ▸ e).1
  · intro h
    refine b_ext (fun i hi => ?_)
    rw [b_and, h1 i hi]
    by_cases q : i = 0
    · rw [q, h]; decide
    · rw [decide_eq_false q, Bool.and_false]
def cbt (f : Nat → Int32) (k : Nat) (x : Int32) (b : Nat) : Int32 := if bt x b = true then f (32 * k + b) else 0
def tS (f : Nat → Int32) (k : Nat) (x : Int32) : Nat → Int32
  | 0 => 0
  | m + 1 => cbt f k x (31 - m) + tS f k x m
theorem tS_s (f : Nat → Int32) (k : Nat) (x : Int32) (m : Nat) : tS f k x (m + 1) = cbt f k x (31 - m) + tS f k x m := rfl
theorem tS_z (f : Nat → Int32) (k : Nat) (x : Int32) : ∀ m, m ≤ 32 → (∀ b, 32 - m ≤ b → b < 32 → bt x b = false) → tS f k x m = 0 := by
  intro m
  induction m with
  | zero => intro _ _; rfl
  | succ m ih =>
    intro hm h
    rw [tS_s, ih (by omega) (fun b h1 h2 => h b (by omega) h2)]
    unfold cbt
    rw [if_neg (by rw [h (31 - m) (by omega) (by omega)]; decide)]
    rfl
theorem ixm {k b : Nat} : nI k * (32 : Int32) + nI b = nI (32 * k + b) := by
  rw [show (32 : Int32) = nI 32 from rfl, pk_mul, nI_add, Nat.mul_comm]
theorem ixm2 {k b : Nat} : (32 : Int32) * nI k + nI b = nI (32 * k + b) := by
  rw [show (32 : Int32) = nI 32 from rfl, pk_mul, nI_add]
theorem weigh_S {u : g_S} {k : Nat} (hk : k < 8) (x : Int32) : ∀ (m n : Nat) (s r : Int32), m ≤ 32 → m < n → (∀ i, i < 32 → bt r i = bt x (32 - m + i)) → fcU_weigh_8 u n (nI k) s r (nI (32 - m)) = some (s + tS (u.2 4) k x m) := by
  intro m
  induction m with
  | zero =>
    intro n s r hm hn hr
    obtain ⟨n, rfl⟩ : ∃ n', n = n' + 1 := ⟨n - 1, by omega⟩
    rw [fcU_weigh_8_s, if_pos (by decide)]
    show some s = some (s + 0)
    rw [Int32.add_zero]
  | succ m ih =>
    intro n s r hm hn hr
    obtain ⟨n, rfl⟩ : ∃ n', n = n' + 1 := ⟨n - 1, by omega⟩
    have hlt : ¬ (32 : Int32) ≤ nI (32 - (m + 1)) := nI_ge (a := 32 - (m + 1)) (b := 32) (by omega) (by decide)
    rw [fcU_weigh_8_s, if_neg hlt]
    by_cases hz : r = 0
    · rw [if_pos hz, tS_z (u.2 4) k x (m + 1) hm (fun b h1 h2 => by
        have := hr (b - (32 - (m + 1))) (by omega)
        rw [hz, b_0, show 32 - (m + 1) + (b - (32 - (m + 1))) = b by omega] at this
        exact this.symm), Int32.add_zero]
    · rw [if_neg hz]
      have h0 : bt r 0 = bt x (31 - m) := by
        have := hr 0 (by omega)
        rwa [show 32 - (m + 1) + 0 = 31 - m by omega] at this
      have hi : nI (32 - (m + 1)) + (1 : Int32) = nI (32 - m) := by
        rw [nI_1, show 32 - (m + 1) + 1 = 32 - m by omega]
      have hr2 : ∀ i, i < 32 → bt ((r.toUInt32 >>> (Int32.toUInt32 (1 : Int32) &&& Int32.toUInt32 31)).toInt32) i = bt x (32 - m + i) := by
        intro i hi
        have e : bt ((r.toUInt32 >>> (Int32.toUInt32 (1 : Int32) &&& Int32.toUInt32 31)).toInt32) i = bt r (1 + i) := b_ushr 1 (by decide) r i
        rw [e]
        by_cases q : 1 + i < 32
        · rw [hr (1 + i) q, show 32 - (m + 1) + (1 + i) = 32 - m + i by omega]
        · rw [b_big (by omega), b_big (by omega)]
      by_cases hb : bt r 0 = true
      · rw [if_neg (fun q => q ((bit0 r).mpr hb))]
        rw [show (32 - (m + 1)) = 31 - m by omega, ixm, ck_nI (by omega) (by decide), nI_clamp (by omega)]
        rw [show 31 - m = 32 - (m + 1) by omega]
        show fcU_weigh_8 u n (nI k) (s + u.2 4 (32 * k + (32 - (m + 1)))) _ (nI (32 - (m + 1)) + (1 : Int32)) = _
        rw [hi, ih n _ _ (by omega) (by omega) hr2, tS_s]
        unfold cbt
        rw [if_pos (by rw [← h0]; exact hb), show 31 - m = 32 - (m + 1) by omega, Int32.add_assoc]
      · rw [if_pos (fun q => hb ((bit0 r).mp q))]
        show fcU_weigh_8 u n (nI k) s _ (nI (32 - (m + 1)) + (1 : Int32)) = _
        rw [hi, ih n _ _ (by omega) (by omega) hr2, tS_s]
        unfold cbt
        rw [if_neg (by rw [← h0]; exact hb), Int32.zero_add]
theorem sum_S {w : g_S} {k : Nat} (hk : k < 8) (x : Int32) : ∀ (m n : Nat) (s : Int32), m ≤ 32 → m < n → fm_sum_5 w n x (nI k) s (nI (32 - m)) = some (s + tS (w.2 4) k x m) := by
  intro m
  induction m with
  | zero =>
    intro n s hm hn
    obtain ⟨n, rfl⟩ : ∃ n', n = n' + 1 := ⟨n - 1, by omega⟩
    rw [fm_sum_5_s, if_pos (by decide)]
    show some s = some (s + 0)
    rw [Int32.add_zero]
  | succ m ih =>
    intro n s hm hn
    obtain ⟨n, rfl⟩ : ∃ n', n = n' + 1 := ⟨n - 1, by omega⟩
    have hlt : ¬ (32 : Int32) ≤ nI (32 - (m + 1)) := nI_ge (a := 32 - (m + 1)) (b := 32) (by omega) (by decide)
    rw [fm_sum_5_s, if_neg hlt]
    have hi : nI (32 - (m + 1)) + (1 : Int32) = nI (32 - m) := by
      rw [nI_1, show 32 - (m + 1) + 1 = 32 - m by omega]
    have h0 : bt (x >>> (nI (32 - (m + 1)) &&& 31)) 0 = bt x (31 - m) := by
      rw [b_sshr (32 - (m + 1)) (by omega) x (by decide), if_pos (by omega), show 32 - (m + 1) + 0 = 31 - m by omega]
    by_cases hb : bt x (31 - m) = true
    · rw [if_neg (fun q => q ((bit0 _).mpr (by rw [h0]; exact hb)))]
      rw [show (32 - (m + 1)) = 31 - m by omega, ixm2, ck_nI (by omega) (by decide), nI_clamp (by omega)]
      rw [show 31 - m = 32 - (m + 1) by omega]
      show fm_sum_5 w n x (nI k) (s + w.2 4 (32 * k + (32 - (m + 1)))) (nI (32 - (m + 1)) + (1 : Int32)) = _
      rw [hi, ih n _ (by omega) (by omega), tS_s]
      unfold cbt
      rw [if_pos hb, show 31 - m = 32 - (m + 1) by omega, Int32.add_assoc]
    · rw [if_pos (fun q => hb (by rw [← h0]; exact (bit0 _).mp q))]
      show fm_sum_5 w n x (nI k) (s + (0 : Int32)) (nI (32 - (m + 1)) + (1 : Int32)) = _
      rw [hi, ih n _ (by omega) (by omega), tS_s, Int32.add_zero]
      unfold cbt
      rw [if_neg hb, Int32.zero_add]
def wS (f : Nat → Int32) (k : Nat) (x : Int32) : Int32 := tS f k x 32
theorem weigh_e {u : g_S} {k : Nat} (hk : k < 8) (x : Int32) : fcU_weigh u (nI k) x = some (wS (u.2 4) k x) := by
  have h := weigh_S (u := u) hk x 32 200 0 x (Nat.le_refl _) (by decide) (fun i _ => by rw [show 32 - 32 + i = i by omega])
  rw [Int32.zero_add] at h
  exact h
theorem sum_e {w : g_S} {k : Nat} (hk : k < 8) (x : Int32) : fm_sum w x (nI k) = some (wS (w.2 4) k x) := by
  have h := sum_S (w := w) hk x 32 200 0 (Nat.le_refl _) (by decide)
  rw [Int32.zero_add] at h
  exact h
end
section
def sqr (a b : Int32) : Int64 := (Int32.toInt64 (a / (10000 : Int32) - b / (10000 : Int32))) * (Int32.toInt64 (a / (10000 : Int32) - b / (10000 : Int32))) + (Int32.toInt64 ((a - a / (10000 : Int32) * (10000 : Int32)) - (b - b / (10000 : Int32) * (10000 : Int32)))) * (Int32.toInt64 ((a - a / (10000 : Int32) * (10000 : Int32)) - (b - b / (10000 : Int32) * (10000 : Int32))))
theorem sqc (a b : Int32) : fcJ_squareBetween a b = some (sqr a b) := rfl
theorem sqm (a b : Int32) : fm_squareOf a b = some (sqr a b) := rfl
theorem i64_sub {t s : Int32} (ht : 0 ≤ t.toInt) (hs : 0 ≤ s.toInt) : (t.toInt64 - s.toInt64).toInt = t.toInt - s.toInt := by
  have h1 := oi_hi t
  have h2 := oi_hi s
  rw [Int64.toInt_sub, Int32.toInt_toInt64, Int32.toInt_toInt64]
  exact Int.bmod_eq_of_le_mul_two (by omega) (by omega)
theorem i32_sub {t s : Int32} (ht : 0 ≤ t.toInt) (hs : 0 ≤ s.toInt) : (t - s).toInt = t.toInt - s.toInt := by
  have h1 := oi_hi t
  have h2 := oi_hi s
  exact oi_sub rfl rfl (by omega) (by omega)
theorem lgc_le {a b : Int64} : (lg_cmp a b) ≤ 0 ↔ a.toInt ≤ b.toInt := by
  unfold lg_cmp
  by_cases h : a > b
  · rw [if_pos h]
    have := Int64.lt_iff_toInt_lt.mp h
    exact ⟨fun q => absurd q (by decide), fun _ => by omega⟩
  · rw [if_neg h]
    have h1 : ¬ b.toInt < a.toInt := fun z => h (Int64.lt_iff_toInt_lt.mpr z)
    by_cases e : a = b
    · rw [if_pos e, e]; exact ⟨fun _ => Int.le_refl _, fun _ => by decide⟩
    · rw [if_neg e]
      exact ⟨fun _ => by omega, fun _ => by decide⟩
theorem span_iff {s t v : Int32} (ht : 0 ≤ t.toInt) (hv : 0 ≤ v.toInt) : (lg_cmp (Int32.toInt64 t - Int32.toInt64 v) (Int32.toInt64 s)) ≤ 0 ↔ ¬ s < t - v := by
  rw [lgc_le, i64_sub ht hv, Int32.toInt_toInt64, Int32.lt_iff_toInt_lt, i32_sub ht hv]
  omega
theorem span_iff2 {s t v : Int32} (ht : 0 ≤ t.toInt) (hv : 0 ≤ v.toInt) : 0 < (lg_cmp (Int32.toInt64 t - Int32.toInt64 v) (Int32.toInt64 s)) ↔ s < t - v := by
  have h := span_iff (s := s) ht hv
  constructor
  · intro q
    refine Classical.byContradiction (fun z => ?_)
    have := h.mpr z
    have h1 := Int32.lt_iff_toInt_lt.mp q
    have h2 := Int32.le_iff_toInt_le.mp this
    omega
  · intro q
    have z : ¬ (lg_cmp (Int32.toInt64 t - Int32.toInt64 v) (Int32.toInt64 s)) ≤ 0 := fun y => h.mp y q
    have h2 := mt Int32.le_iff_toInt_le.mpr z
    exact Int32.lt_iff_toInt_lt.mpr (by omega)
def enV (f2 f3 f4 : Nat → Int32) (k : Nat) (a b : Int32) : Int32 := if wS f4 k (a &&& b) * f3 k < f2 k * wS f4 k (a ||| b) then 0 else 1
def agV (f0 f1 f2 f3 f4 : Nat → Int32) (k : Nat) (pc wc tc p x t : Int32) : Int32 :=
  if f1 k < t - tc then 0
  else if pc = -1 ∨ p = -1 then (if wS f4 k (wc ||| x) ≤ 0 then 0 else if enV f2 f3 f4 k wc x = 0 then 0 else 2)
  else if wS f4 k (wc ||| x) ≤ 0 then (if 0 < lg_cmp ((4 : Int64) * sqr pc p) (Int32.toInt64 (f0 k) * Int32.toInt64 (f0 k)) then 0 else 1)
  else if 0 < lg_cmp (sqr pc p) (Int32.toInt64 (f0 k) * Int32.toInt64 (f0 k)) then 0 else if enV f2 f3 f4 k wc x = 0 then 0 else 1
theorem agr_c {u : g_S} {c d k : Nat} (hc : c < 121) (hd : d < 121) (hk : u.2 8 d = nI k) (hk8 : k < 8) : fcJ_agreement u (nI c) (nI d) = some (agV (u.2 0) (u.2 1) (u.2 2) (u.2 3) (u.2 4) k (u.2 9 c) (u.2 10 c) (u.2 12 c) (u.2 9 d) (u.2 10 d) (u.2 12 d)) := by
  have Ec : ∀ {β : Type} (x : Option β), ck (nI c) 121 x = x := fun x => ck_nI hc (by decide)
  have Ed : ∀ {β : Type} (x : Option β), ck (nI d) 121 x = x := fun x => ck_nI hd (by decide)
  have Ek : ∀ {β : Type} (x : Option β), ck (nI k) 8 x = x := fun x => ck_nI hk8 (by decide)
  have n1 : (nI c).toNatClampNeg = c := nI_clamp (by omega)
  have n2 : (nI d).toNatClampNeg = d := nI_clamp (by omega)
  have n3 : (nI k).toNatClampNeg = k := nI_clamp (by omega)
  have hs : fcJ_isWithinSpan u (nI c) (nI d) = if u.2 1 k < u.2 12 d - u.2 12 c then some (0 : Int32) else some (1 : Int32) := by
    unfold fcJ_isWithinSpan
    rw [Ed, Ec, Ed, n1, n2, hk, Ek, n3]
  unfold fcJ_agreement agV
  by_cases h1 : u.2 1 k < u.2 12 d - u.2 12 c
  · rw [bi_s (hs.trans (if_pos h1)), if_neg (fun q => q rfl), if_pos h1]
  · rw [bi_s (hs.trans (if_neg h1)), if_pos (by decide : ¬ (1 : Int32) = 0), if_neg h1, Ed, gl_r, n1, n2, hk, Ec, Ed, bi_s (weigh_e hk8 _), Ec, Ed, bi_s (weigh_e hk8 _)]
    have hm : fcU_meetsNeed u (nI k) (wS (u.2 4) k (u.2 10 c &&& u.2 10 d)) (wS (u.2 4) k (u.2 10 c ||| u.2 10 d)) = some (enV (u.2 2) (u.2 3) (u.2 4) k (u.2 10 c) (u.2 10 d)) := by
      unfold fcU_meetsNeed enV
      rw [Ek, Ek, n3]
      by_cases q : wS (u.2 4) k (u.2 10 c &&& u.2 10 d) * u.2 3 k < u.2 2 k * wS (u.2 4) k (u.2 10 c ||| u.2 10 d)
      · rw [if_pos q, if_pos q]
      · rw [if_neg q, if_neg q]
    have h116 : ∀ x6 y0 : Int32, fcJ_agreement_116 u (nI c) (nI d) (nI k) x6 y0 = if u.2 9 c = -1 ∨ u.2 9 d = -1 then (if y0 = 0 then some (0 : Int32) else some (2 : Int32)) else if x6 = 0 then (if 0 < lg_cmp ((4 : Int64) * sqr (u.2 9 c) (u.2 9 d)) (Int32.toInt64 (u.2 0 k) * Int32.toInt64 (u.2 0 k)) then some (0 : Int32) else some (1 : Int32)) else if y0 = 0 then some (0 : Int32) else if 0 < lg_cmp (sqr (u.2 9 c) (u.2 9 d)) (Int32.toInt64 (u.2 0 k) * Int32.toInt64 (u.2 0 k)) then some (0 : Int32) else some (1 : Int32) := by
      intro x6 y0
      unfold fcJ_agreement_116
      rw [Ec, n1, n2, Ed, Ec, Ed, n3]
      by_cases a1 : u.2 9 c = -1
      · rw [if_pos a1, if_pos (Or.inl a1)]; rfl
      · rw [if_neg a1]
        by_cases a2 : u.2 9 d = -1
        · rw [if_neg (fun q => q a2), if_pos (Or.inr a2)]; rfl
        · rw [if_pos a2, if_neg (fun q => q.elim a1 a2), bi_s (sqc _ _), Ek, Ek, gl_r]
          by_cases b1 : x6 = 0
          · rw [if_pos b1, if_pos b1]
            by_cases b2 : 0 < lg_cmp ((4 : Int64) * sqr (u.2 9 c) (u.2 9 d)) (Int32.toInt64 (u.2 0 k) * Int32.toInt64 (u.2 0 k))
            · rw [if_pos b2, if_pos b2]; rfl
            · rw [if_neg b2, if_neg b2]; rfl
          · rw [if_neg b1, if_neg b1]
            by_cases b2 : y0 = 0
            · rw [if_pos b2, if_pos b2]; rfl
            · rw [if_neg b2, if_neg b2]
              by_cases b3 : 0 < lg_cmp (sqr (u.2 9 c) (u.2 9 d)) (Int32.toInt64 (u.2 0 k) * Int32.toInt64 (u.2 0 k))
              · rw [if_pos b3, if_pos b3]; rfl
              · rw [if_neg b3, if_neg b3]; rfl
    by_cases h2 : wS (u.2 4) k (u.2 10 c ||| u.2 10 d) ≤ 0
    · rw [if_pos h2, if_pos h2, if_pos h2]
      unfold fcJ_agreement_89
      rw [if_pos rfl, h116]
      by_cases a1 : u.2 9 c = -1 ∨ u.2 9 d = -1
      · rw [if_pos a1, if_pos a1, if_pos rfl]
      · rw [if_neg a1, if_neg a1, if_pos rfl]
        by_cases b2 : 0 < lg_cmp ((4 : Int64) * sqr (u.2 9 c) (u.2 9 d)) (Int32.toInt64 (u.2 0 k) * Int32.toInt64 (u.2 0 k))
        · rw [if_pos b2, if_pos b2]
        · rw [if_neg b2, if_neg b2]
    · rw [if_neg h2, if_neg h2, if_neg h2]
      unfold fcJ_agreement_89
      rw [if_neg (by decide), bi_s hm]
      by_cases h3 : enV (u.2 2) (u.2 3) (u.2 4) k (u.2 10 c) (u.2 10 d) = 0
      · rw [if_pos h3, if_pos h3, h116]
        by_cases a1 : u.2 9 c = -1 ∨ u.2 9 d = -1
        · rw [if_pos a1, if_pos a1, if_pos rfl]
        · rw [if_neg a1, if_neg a1, if_neg (by decide), if_pos rfl]
          by_cases b3 : 0 < lg_cmp (sqr (u.2 9 c) (u.2 9 d)) (Int32.toInt64 (u.2 0 k) * Int32.toInt64 (u.2 0 k))
          · rw [if_pos b3]
          · rw [if_neg b3, if_pos h3]
      · rw [if_neg h3, if_neg h3, h116]
        by_cases a1 : u.2 9 c = -1 ∨ u.2 9 d = -1
        · rw [if_pos a1, if_pos a1, if_neg (by decide)]
        · rw [if_neg a1, if_neg a1, if_neg (by decide), if_neg (by decide)]
          by_cases b3 : 0 < lg_cmp (sqr (u.2 9 c) (u.2 9 d)) (Int32.toInt64 (u.2 0 k) * Int32.toInt64 (u.2 0 k))
          · rw [if_pos b3, if_pos b3]
          · rw [if_neg b3, if_neg b3, if_neg h3]
theorem enm {w : g_S} {k : Nat} (hk8 : k < 8) (a b : Int32) : fm_isEnough w a b (nI k) = some (enV (w.2 2) (w.2 3) (w.2 4) k a b) := by
  have Ek : ∀ {β : Type} (x : Option β), ck (nI k) 8 x = x := fun x => ck_nI hk8 (by decide)
  have n3 : (nI k).toNatClampNeg = k := nI_clamp (by omega)
  unfold fm_isEnough enV
  rw [bi_s (sum_e hk8 _), Ek, Ek, n3, bi_s (sum_e hk8 _)]
  by_cases q : wS (w.2 4) k (a &&& b) * w.2 3 k < w.2 2 k * wS (w.2 4) k (a ||| b)
  · rw [if_pos q, if_pos q]
  · rw [if_neg q, if_neg q]
theorem agr_m {w : g_S} {c k : Nat} {p x t : Int32} (hc : c < 120) (hk8 : k < 8) (ht : 0 ≤ t.toInt) (htc : 0 ≤ (w.2 11 c).toInt) (hp : -1 ≤ p.toInt) (hpc : -1 ≤ (w.2 9 c).toInt) : fm_meets w (nI c) (nI k) p x t = some (agV (w.2 0) (w.2 1) (w.2 2) (w.2 3) (w.2 4) k (w.2 9 c) (w.2 10 c) (w.2 11 c) p x t) := by
  have Ec : ∀ {β : Type} (x : Option β), ck (nI c) 120 x = x := fun x => ck_nI hc (by decide)
  have Ek : ∀ {β : Type} (x : Option β), ck (nI k) 8 x = x := fun x => ck_nI hk8 (by decide)
  have n1 : (nI c).toNatClampNeg = c := nI_clamp (by omega)
  have n3 : (nI k).toNatClampNeg = k := nI_clamp (by omega)
  have z0 : (0 : Int32).toInt = 0 := by decide
  have zm : (-1 : Int32).toInt = -1 := by decide
  have neg : ∀ y : Int32, -1 ≤ y.toInt → (y < 0 ↔ y = -1) := fun y hy => by
    rw [Int32.lt_iff_toInt_lt, z0]
    exact ⟨fun q => Int32.toInt_inj.mp (by omega), fun q => by rw [q, zm]; decide⟩
  unfold fm_meets agV
  rw [Ec, Ek, n1, n3]
  by_cases h1 : w.2 1 k < t - w.2 11 c
  · rw [if_neg (fun q => (span_iff ht htc).mp q h1), if_pos h1]
  · rw [if_pos ((span_iff ht htc).mpr h1), if_neg h1, Ec, bi_s (sum_e hk8 _)]
    have h157 : ∀ x6 : Int32, fm_meets_157 w (nI c) (nI k) x x6 = if x6 = 0 then some (0 : Int32) else if enV (w.2 2) (w.2 3) (w.2 4) k (w.2 10 c) x = 0 then some (0 : Int32) else some (2 : Int32) := by
      intro x6
      unfold fm_meets_157
      by_cases a : x6 = 0
      · rw [if_pos a, if_pos a]
      · rw [if_neg a, if_neg a, Ec, n1, bi_s (enm hk8 _ _)]
    have h46 : ∀ y0 : Int32, fm_meets_46 w (nI c) (nI k) p x y0 = if w.2 9 c = -1 ∨ p = -1 then (if y0 = 0 then some (0 : Int32) else if enV (w.2 2) (w.2 3) (w.2 4) k (w.2 10 c) x = 0 then some (0 : Int32) else some (2 : Int32)) else if y0 = 0 then (if 0 < lg_cmp ((4 : Int64) * sqr (w.2 9 c) p) (Int32.toInt64 (w.2 0 k) * Int32.toInt64 (w.2 0 k)) then some (0 : Int32) else some (1 : Int32)) else if 0 < lg_cmp (sqr (w.2 9 c) p) (Int32.toInt64 (w.2 0 k) * Int32.toInt64 (w.2 0 k)) then some (0 : Int32) else if enV (w.2 2) (w.2 3) (w.2 4) k (w.2 10 c) x = 0 then some (0 : Int32) else some (1 : Int32) := by
      intro y0
      unfold fm_meets_46
      rw [Ec, n1]
      by_cases a1 : w.2 9 c = -1
      · rw [if_pos ((neg _ hpc).mpr a1), if_pos (Or.inl a1), h157]
      · rw [if_neg (fun q => a1 ((neg _ hpc).mp q))]
        by_cases a2 : p = -1
        · rw [if_pos ((neg _ hp).mpr a2), if_pos (Or.inr a2), h157]
        · rw [if_neg (fun q => a2 ((neg _ hp).mp q)), if_neg (fun q => q.elim a1 a2), Ec, bi_s (sqm _ _), Ek, Ek, gl_r, n3]
          by_cases b1 : y0 = 0
          · rw [if_pos b1, if_pos b1]
            by_cases b2 : 0 < lg_cmp ((4 : Int64) * sqr (w.2 9 c) p) (Int32.toInt64 (w.2 0 k) * Int32.toInt64 (w.2 0 k))
            · rw [if_pos b2, if_pos b2]; rfl
            · rw [if_neg b2, if_neg b2]; rfl
          · rw [if_neg b1, if_neg b1]
            by_cases b2 : 0 < lg_cmp (sqr (w.2 9 c) p) (Int32.toInt64 (w.2 0 k) * Int32.toInt64 (w.2 0 k))
            · rw [if_pos b2, if_pos b2]; rfl
            · rw [if_neg b2, if_neg b2, Ec, bi_s (enm hk8 _ _)]
              by_cases b3 : enV (w.2 2) (w.2 3) (w.2 4) k (w.2 10 c) x = 0
              · rw [if_pos b3, if_pos b3]; rfl
              · rw [if_neg b3, if_neg b3]; rfl
    by_cases h2 : wS (w.2 4) k (w.2 10 c ||| x) ≤ 0
    · rw [if_pos h2, if_pos h2, if_pos h2, h46]
      by_cases a1 : w.2 9 c = -1 ∨ p = -1
      · rw [if_pos a1, if_pos a1, if_pos rfl]
      · rw [if_neg a1, if_neg a1, if_pos rfl]
        by_cases b2 : 0 < lg_cmp ((4 : Int64) * sqr (w.2 9 c) p) (Int32.toInt64 (w.2 0 k) * Int32.toInt64 (w.2 0 k))
        · rw [if_pos b2, if_pos b2]
        · rw [if_neg b2, if_neg b2]
    · rw [if_neg h2, if_neg h2, if_neg h2, h46]
      by_cases a1 : w.2 9 c = -1 ∨ p = -1
      · rw [if_pos a1, if_pos a1, if_neg (by decide)]
        by_cases b3 : enV (w.2 2) (w.2 3) (w.2 4) k (w.2 10 c) x = 0
        · rw [if_pos b3, if_pos b3]
        · rw [if_neg b3, if_neg b3]
      · rw [if_neg a1, if_neg a1, if_neg (by decide)]
        by_cases b2 : 0 < lg_cmp (sqr (w.2 9 c) p) (Int32.toInt64 (w.2 0 k) * Int32.toInt64 (w.2 0 k))
        · rw [if_pos b2, if_pos b2]
        · rw [if_neg b2, if_neg b2]
          by_cases b3 : enV (w.2 2) (w.2 3) (w.2 4) k (w.2 10 c) x = 0
          · rw [if_pos b3, if_pos b3]
          · rw [if_neg b3, if_neg b3]
end
section
def RA (u w : g_S) : Prop := u.1 0 = w.1 1 ∧ u.1 1 = w.1 2 ∧ (∀ k, k < 7 → u.2 k = w.2 k) ∧
  (∀ c : Nat, (c : Int) < (u.1 0).toInt → u.2 7 c = w.2 7 c ∧ u.2 8 c = w.2 8 c ∧ u.2 9 c = w.2 9 c ∧ u.2 10 c = w.2 10 c ∧ u.2 12 c = w.2 11 c ∧ u.2 13 c = w.2 12 c ∧ u.2 14 c = w.2 13 c ∧ u.2 15 c = w.2 15 c ∧ u.2 16 c = w.2 14 c) ∧
  (∀ e : Nat, (e : Int) < (u.1 1).toInt → u.2 17 e = w.2 16 e ∧ (¬ u.2 17 e = 3 → u.2 20 e = w.2 17 e ∧ (¬ u.2 20 e = -1 → (u.2 21 e = w.2 18 e ∧ u.2 22 e = w.2 19 e ∧ (w.2 18 e).toInt < (w.2 19 e).toInt) ∨ (u.2 21 e = w.2 19 e ∧ u.2 22 e = w.2 18 e ∧ (w.2 19 e).toInt < (w.2 18 e).toInt))))
def RS (u : g_S) : Prop :=
  (∀ j : Nat, 0 ≤ (u.2 6 j).toInt ∧ (u.2 6 j).toInt ≤ 99999999) ∧
  (∀ c : Nat, (c : Int) < (u.1 0).toInt → 0 ≤ (u.2 12 c).toInt ∧ -1 ≤ (u.2 9 c).toInt ∧ (u.2 9 c).toInt ≤ 99999999 ∧ (u.2 13 c).toInt < (u.1 1).toInt ∧ (u.2 14 c).toInt < (u.1 0).toInt) ∧
  (∀ c : Nat, (c : Int) < (u.1 0).toInt → 0 ≤ (u.2 14 c).toInt → u.2 13 (u.2 14 c).toNatClampNeg = u.2 13 c) ∧
  (∀ e : Nat, (e : Int) < (u.1 1).toInt → ¬ u.2 17 e = 3 → 0 ≤ (u.2 19 e).toInt ∧ (u.2 19 e).toInt < (u.1 0).toInt ∧ (u.2 13 (u.2 19 e).toNatClampNeg).toInt = e ∧ u.2 14 (u.2 19 e).toNatClampNeg = -1 ∧ u.2 18 e = u.2 8 (u.2 19 e).toNatClampNeg ∧ ∀ c : Nat, (c : Int) < (u.1 0).toInt → (u.2 13 c).toInt = e → (u.2 14 c).toInt < 0 → (c : Int) = (u.2 19 e).toInt)
def hxV (m : Int32) : Int32 := if (m &&& (4 : Int32)) = 0 then 0 else 1
def opV (s : Int32) : Int32 := if ¬ s = 0 then 0 else 1
def cnV (h o : Int32) : Int32 := if ¬ h = 0 then 0 else if o = 0 then 0 else 1
section RL1
variable {g : Nat → Int32} {u w : g_S}
theorem n31 {c : Nat} (h : c < 121) : (nI c).toNatClampNeg = c := nI_clamp (by omega)
theorem hx_c {c : Nat} (h : c < 121) : fcA_isHoax u (nI c) = some (hxV (u.2 16 c)) := by
  unfold fcA_isHoax hxV
  rw [ck_nI h (by decide), n31 h]
  by_cases q : (u.2 16 c &&& (4 : Int32)) = 0
  · rw [if_pos q, if_pos q]
  · rw [if_neg q, if_neg q]
theorem hx_m {c : Nat} (h : c < 120) : fm_isHoax w (nI c) = some (hxV (w.2 14 c)) := by
  unfold fm_isHoax hxV
  rw [ck_nI h (by decide), n31 (by omega)]
  by_cases q : (w.2 14 c &&& (4 : Int32)) = 0
  · rw [if_pos q, if_pos q]
  · rw [if_neg q, if_neg q]
theorem op_c (I : IC g u) {c : Nat} (h : c < 121) : fcJ_isInOpenEvent u (nI c) = some (opV (u.2 17 (u.2 13 c).toNatClampNeg)) := by
  have r := IC_r13 I c
  unfold fcJ_isInOpenEvent opV
  rw [ck_nI h (by decide), n31 h, ck_in (vp_I (by omega) (by omega))]
  by_cases q : u.2 17 (u.2 13 c).toNatClampNeg = 0
  · rw [if_neg (fun z => z q), if_neg (fun z => z q)]
  · rw [if_pos q, if_pos q]
theorem op_m (I : IM g w) {c : Nat} (h : c < 120) : fm_isOpen w (nI c) = some (opV (w.2 16 (w.2 12 c).toNatClampNeg)) := by
  have r := IM_r12 I c
  unfold fm_isOpen opV
  rw [ck_nI h (by decide), n31 (by omega), ck_in (vp_I (by omega) (by omega))]
  by_cases q : w.2 16 (w.2 12 c).toNatClampNeg = 0
  · rw [if_neg (fun z => z q), if_neg (fun z => z q)]
  · rw [if_pos q, if_pos q]
theorem cn_c (I : IC g u) {c : Nat} (h : c < 121) : fcJ_canBeReason u (nI c) = some (cnV (hxV (u.2 16 c)) (opV (u.2 17 (u.2 13 c).toNatClampNeg))) := by
  unfold fcJ_canBeReason cnV
  rw [bi_s (hx_c h)]
  by_cases q : hxV (u.2 16 c) = 0
  · rw [if_neg (fun z => z q), if_neg (fun z => z q), bi_s (op_c I h)]
    by_cases q2 : opV (u.2 17 (u.2 13 c).toNatClampNeg) = 0
    · rw [if_pos q2, if_pos q2]
    · rw [if_neg q2, if_neg q2]
  · rw [if_pos q, if_pos q]
theorem RA_z (R : RA u w) : u.1 0 = w.1 1 := R.1
theorem RA_e (R : RA u w) : u.1 1 = w.1 2 := R.2.1
theorem RA_k (R : RA u w) (k : Nat) (h : k < 7) : u.2 k = w.2 k := R.2.2.1 k h
theorem ev_eq (R : RA u w) (S : RS u) (I : IC g u) {c : Nat} (h : (c : Int) < (u.1 0).toInt) : u.2 17 (u.2 13 c).toNatClampNeg = w.2 16 (w.2 12 c).toNatClampNeg := by
  have a := (R.2.2.2.1 c h).2.2.2.2.2.1
  have b := (S.2.1 c h).2.2.2.1
  have r := IC_r13 I c
  have hc : ((u.2 13 c).toNatClampNeg : Int) = (u.2 13 c).toInt := cl_I (by omega)
  rw [← a]
  exact (R.2.2.2.2 _ (by omega)).1
end RL1
end
section
theorem cn_o {h o : Int32} (e : o = 0) : cnV h o = 0 := by
  unfold cnV
  by_cases a : h = 0
  · rw [if_neg (fun z => z a), if_pos e]
  · rw [if_pos a]
theorem cn_h {h o : Int32} (e : ¬ h = 0) : cnV h o = 0 := by
  unfold cnV
  rw [if_pos e]
theorem cn_1 {h o : Int32} (e : h = 0) (e2 : ¬ o = 0) : cnV h o = 1 := by
  unfold cnV
  rw [if_neg (fun z => z e), if_neg e2]
theorem cn01 (h o : Int32) : (if cnV h o = 0 then some (0 : Int32) else some (1 : Int32)) = some (cnV h o) := by
  by_cases a : h = 0
  · by_cases b : o = 0
    · rw [cn_o b, if_pos rfl]
    · rw [cn_1 a b, if_neg (by decide)]
  · rw [cn_h a, if_pos rfl]
theorem ag1 {f0 f1 f2 f3 f4 : Nat → Int32} {k : Nat} {pc wc tc p x t : Int32} (h : agV f0 f1 f2 f3 f4 k pc wc tc p x t = 1) : ¬ pc = -1 ∧ ¬ p = -1 := by
  unfold agV at h
  by_cases a : f1 k < t - tc
  · rw [if_pos a] at h; exact absurd h (by decide)
  · rw [if_neg a] at h
    by_cases b : pc = -1 ∨ p = -1
    · rw [if_pos b] at h
      by_cases c : wS f4 k (wc ||| x) ≤ 0
      · rw [if_pos c] at h; exact absurd h (by decide)
      · rw [if_neg c] at h
        by_cases e : enV f2 f3 f4 k wc x = 0
        · rw [if_pos e] at h; exact absurd h (by decide)
        · rw [if_neg e] at h; exact absurd h (by decide)
    · exact ⟨fun q => b (Or.inl q), fun q => b (Or.inr q)⟩
section SRC
variable {g : Nat → Int32} {u w : g_S}
theorem cd_c (I : IC g u) {c d k : Nat} (h : c < 121) (hd : d < 121) (hkd : u.2 8 d = nI k) : fcJ_isCandidate u (nI c) (nI d) = if u.2 8 c = nI k then some (cnV (hxV (u.2 16 c)) (opV (u.2 17 (u.2 13 c).toNatClampNeg))) else some (0 : Int32) := by
  unfold fcJ_isCandidate
  rw [ck_nI h (by decide), ck_nI hd (by decide), n31 h, n31 hd, hkd]
  by_cases q : u.2 8 c = nI k
  · rw [if_neg (fun z => z q), if_pos q, bi_s (cn_c I h), cn01]
  · rw [if_pos q, if_neg q]
theorem ilt (I : IC g u) (R : RA u w) {i : Nat} (hi : i ≤ 120) (h : ¬ w.1 1 ≤ nI i) : (i : Int) < (u.1 0).toInt ∧ i < 120 := by
  have z := IC_s I
  have e := mt Int32.le_iff_toInt_le.mpr h
  rw [nI_toInt (by omega), ← RA_z R] at e
  omega
theorem near_eq (R : RA u w) (S : RS u) (I : IC g u) (J : IM g w) {d k : Nat} (hd : d < 121) (hk8 : k < 8) (hkd : u.2 8 d = nI k) (ht : 0 ≤ (u.2 12 d).toInt) (hp : -1 ≤ (u.2 9 d).toInt) : ∀ (n i : Nat) (f : Int32) (ls : Int64), (f = -1 ∨ ∃ b : Nat, b < i ∧ (b : Int) < (u.1 0).toInt ∧ f = nI b ∧ ls = sqr (u.2 9 b) (u.2 9 d) ∧ ¬ u.2 9 b = -1) → i ≤ 120 → fcJ_nearestByPlace_7 u n (nI d) f ls (nI i) = fm_agreeing_6 w n (1 : Int32) (nI k) (u.2 9 d) (u.2 10 d) (u.2 12 d) f (nI i) := by
  intro n
  induction n with
  | zero => intro i f ls _ _; rfl
  | succ n ih =>
    intro i f ls hf hi
    have z := IC_s I
    rw [fcJ_nearestByPlace_7_s, fm_agreeing_6_s, RA_z R]
    by_cases h : w.1 1 ≤ nI i
    · rw [if_pos h, if_pos h]
    · rw [if_neg h, if_neg h]
      obtain ⟨hic, hi20⟩ := ilt I R hi h
      obtain ⟨q7, q8, q9, q10, q12, q13, q14, q15, q16⟩ := R.2.2.2.1 i hic
      obtain ⟨s12, s9, s9', s13, s14⟩ := S.2.1 i hic
      have hev := ev_eq R S I hic
      have hrec : ∀ (f : Int32) (ls : Int64), (f = -1 ∨ ∃ b : Nat, b < i + 1 ∧ (b : Int) < (u.1 0).toInt ∧ f = nI b ∧ ls = sqr (u.2 9 b) (u.2 9 d) ∧ ¬ u.2 9 b = -1) → fcJ_nearestByPlace_7 u n (nI d) f ls (nI i + (1 : Int32)) = fm_agreeing_6 w n (1 : Int32) (nI k) (u.2 9 d) (u.2 10 d) (u.2 12 d) f (nI i + (1 : Int32)) := fun f ls hf => by
        rw [nI_1]; exact ih (i + 1) f ls hf (by omega)
      have hf' : (f = -1 ∨ ∃ b : Nat, b < i + 1 ∧ (b : Int) < (u.1 0).toInt ∧ f = nI b ∧ ls = sqr (u.2 9 b) (u.2 9 d) ∧ ¬ u.2 9 b = -1) := hf.imp id (fun ⟨b, h1, h2⟩ => ⟨b, by omega, h2⟩)
      rw [ck_nI hi20 (by decide), n31 (by omega), cd_c I (by omega) hd hkd]
      by_cases a1 : u.2 8 i = nI k
      · rw [if_pos a1, if_neg (fun y => y (q8 ▸ a1)), bi_s (op_m J hi20), hev]
        show (if cnV _ _ = 0 then _ else _) = _
        by_cases a2 : opV (w.2 16 (w.2 12 i).toNatClampNeg) = 0
        · rw [if_pos (cn_o a2), if_pos a2, if_pos rfl]; exact hrec f ls hf'
        · rw [if_neg a2, bi_s (hx_m hi20), q16]
          by_cases a3 : hxV (w.2 14 i) = 0
          · rw [if_neg (by rw [cn_1 a3 a2]; decide), if_neg (fun y => y a3)]
            have e1 := agr_c (u := u) (c := i) (d := d) (k := k) (by omega) hd hkd hk8
            have e2 := agr_m (w := w) (c := i) (k := k) (p := u.2 9 d) (x := u.2 10 d) (t := u.2 12 d) hi20 hk8 ht (by rw [← q12]; exact s12) hp (by rw [← q9]; exact s9)
            rw [← q9, ← q10, ← q12, ← RA_k R 0 (by decide), ← RA_k R 1 (by decide), ← RA_k R 2 (by decide), ← RA_k R 3 (by decide), ← RA_k R 4 (by decide)] at e2
            rw [bi_s e1, bi_s e2]
            by_cases a4 : agV (u.2 0) (u.2 1) (u.2 2) (u.2 3) (u.2 4) k (u.2 9 i) (u.2 10 i) (u.2 12 i) (u.2 9 d) (u.2 10 d) (u.2 12 d) = 1
            · obtain ⟨b1, b2⟩ := ag1 a4
              rw [if_neg (fun y => y a4), if_neg (fun y => y a4), if_neg (by decide : ¬ (1 : Int32) = 0), if_pos (by decide : ¬ (1 : Int32) = 2), ck_nI (n := 121) (by omega) (by decide), ck_nI hd (by decide), n31 hd, bi_s (sqc _ _)]
              have hnew : (nI i = -1 ∨ ∃ b : Nat, b < i + 1 ∧ (b : Int) < (u.1 0).toInt ∧ nI i = nI b ∧ sqr (u.2 9 i) (u.2 9 d) = sqr (u.2 9 b) (u.2 9 d) ∧ ¬ u.2 9 b = -1) := Or.inr ⟨i, by omega, hic, rfl, rfl, b1⟩
              rcases hf with hf | ⟨b, c1, c2, c3, c4, c5⟩
              · have eb : fm_isBetter w (nI i) f (nI k) (u.2 9 d) (u.2 10 d) = some (1 : Int32) := by
                  unfold fm_isBetter
                  rw [if_neg (by rw [hf]; decide)]
                rw [if_pos hf, bi_s eb, if_neg (by decide)]
                exact hrec _ _ hnew
              · have hb20 : b < 120 := by omega
                have sb := S.2.1 b c2
                obtain ⟨r7, r8, r9, _⟩ := R.2.2.2.1 b c2
                have z0 : (0 : Int32).toInt = 0 := by decide
                have zm : (-1 : Int32).toInt = -1 := by decide
                have ng : ∀ y : Int32, -1 ≤ y.toInt → ¬ y = -1 → ¬ y < 0 := fun y y1 y2 y3 => y2 (Int32.toInt_inj.mp (by have := Int32.lt_iff_toInt_lt.mp y3; omega))
                rw [if_neg (by rw [c3]; exact nI_m1 (by omega))]
                have e3 : fm_isBetter w (nI i) f (nI k) (u.2 9 d) (u.2 10 d) = if 0 ≤ lg_cmp (sqr (u.2 9 i) (u.2 9 d)) ls then some (0 : Int32) else some (1 : Int32) := by
                  unfold fm_isBetter
                  rw [c3, if_pos (nI_pos' (by omega)), if_neg (ng _ hp b2), ck_nI hi20 (by decide), n31 (by omega), n31 (by omega), ← q9, ← r9, if_neg (ng _ s9 b1), ck_nI hb20 (by decide), if_neg (ng _ sb.2.1 c5), ck_nI hi20 (by decide), bi_s (sqm _ _), ck_nI hb20 (by decide), bi_s (sqm _ _), c4]
                by_cases a5 : 0 ≤ lg_cmp (sqr (u.2 9 i) (u.2 9 d)) ls
                · rw [bi_s (e3.trans (if_pos a5)), if_pos a5, if_pos rfl]
                  exact hrec f ls hf'
                · rw [bi_s (e3.trans (if_neg a5)), if_neg a5, if_neg (by decide)]
                  exact hrec _ _ hnew
            · rw [if_pos a4, if_pos a4, if_pos rfl]; exact hrec f ls hf'
          · rw [if_pos (cn_h a3), if_pos a3, if_pos rfl]; exact hrec f ls hf'
      · rw [if_neg a1, if_pos (fun y => a1 (q8.trans y)), bi_s (rfl : some (0 : Int32) = some (0 : Int32)), if_pos rfl, if_pos rfl]; exact hrec f ls hf'
theorem great_eq (R : RA u w) (S : RS u) (I : IC g u) (J : IM g w) {d k : Nat} (hd : d < 121) (hk8 : k < 8) (hkd : u.2 8 d = nI k) (ht : 0 ≤ (u.2 12 d).toInt) (hp : -1 ≤ (u.2 9 d).toInt) : ∀ (n i : Nat) (f bb be : Int32), (f = -1 ∨ ∃ b : Nat, b < i ∧ (b : Int) < (u.1 0).toInt ∧ f = nI b ∧ bb = wS (u.2 4) k (u.2 10 b &&& u.2 10 d) ∧ be = wS (u.2 4) k (u.2 10 b ||| u.2 10 d)) → i ≤ 120 → fcJ_greatestShare_21 u n (nI d) (nI k) f bb be (nI i) = fm_agreeing_6 w n (2 : Int32) (nI k) (u.2 9 d) (u.2 10 d) (u.2 12 d) f (nI i) := by
  intro n
  induction n with
  | zero => intro i f bb be _ _; rfl
  | succ n ih =>
    intro i f bb be hf hi
    have z := IC_s I
    rw [fcJ_greatestShare_21_s, fm_agreeing_6_s, RA_z R]
    by_cases h : w.1 1 ≤ nI i
    · rw [if_pos h, if_pos h]
    · rw [if_neg h, if_neg h]
      obtain ⟨hic, hi20⟩ := ilt I R hi h
      obtain ⟨q7, q8, q9, q10, q12, q13, q14, q15, q16⟩ := R.2.2.2.1 i hic
      obtain ⟨s12, s9, s9', s13, s14⟩ := S.2.1 i hic
      have hev := ev_eq R S I hic
      have hrec : ∀ (f bb be : Int32), (f = -1 ∨ ∃ b : Nat, b < i + 1 ∧ (b : Int) < (u.1 0).toInt ∧ f = nI b ∧ bb = wS (u.2 4) k (u.2 10 b &&& u.2 10 d) ∧ be = wS (u.2 4) k (u.2 10 b ||| u.2 10 d)) → fcJ_greatestShare_21 u n (nI d) (nI k) f bb be (nI i + (1 : Int32)) = fm_agreeing_6 w n (2 : Int32) (nI k) (u.2 9 d) (u.2 10 d) (u.2 12 d) f (nI i + (1 : Int32)) := fun f bb be hf => by
        rw [nI_1]; exact ih (i + 1) f bb be hf (by omega)
      have hf' : (f = -1 ∨ ∃ b : Nat, b < i + 1 ∧ (b : Int) < (u.1 0).toInt ∧ f = nI b ∧ bb = wS (u.2 4) k (u.2 10 b &&& u.2 10 d) ∧ be = wS (u.2 4) k (u.2 10 b ||| u.2 10 d)) := hf.imp id (fun ⟨b, h1, h2⟩ => ⟨b, by omega, h2⟩)
      rw [ck_nI hi20 (by decide), n31 (by omega), cd_c I (by omega) hd hkd]
      by_cases a1 : u.2 8 i = nI k
      · rw [if_pos a1, if_neg (fun y => y (q8 ▸ a1)), bi_s (op_m J hi20), hev]
        show (if cnV _ _ = 0 then _ else _) = _
        by_cases a2 : opV (w.2 16 (w.2 12 i).toNatClampNeg) = 0
        · rw [if_pos (cn_o a2), if_pos a2, if_pos rfl]; exact hrec f bb be hf'
        · rw [if_neg a2, bi_s (hx_m hi20), q16]
          by_cases a3 : hxV (w.2 14 i) = 0
          · rw [if_neg (by rw [cn_1 a3 a2]; decide), if_neg (fun y => y a3)]
            have e1 := agr_c (u := u) (c := i) (d := d) (k := k) (by omega) hd hkd hk8
            have e2 := agr_m (w := w) (c := i) (k := k) (p := u.2 9 d) (x := u.2 10 d) (t := u.2 12 d) hi20 hk8 ht (by rw [← q12]; exact s12) hp (by rw [← q9]; exact s9)
            rw [← q9, ← q10, ← q12, ← RA_k R 0 (by decide), ← RA_k R 1 (by decide), ← RA_k R 2 (by decide), ← RA_k R 3 (by decide), ← RA_k R 4 (by decide)] at e2
            rw [bi_s e1, bi_s e2]
            by_cases a4 : agV (u.2 0) (u.2 1) (u.2 2) (u.2 3) (u.2 4) k (u.2 9 i) (u.2 10 i) (u.2 12 i) (u.2 9 d) (u.2 10 d) (u.2 12 d) = 2
            · rw [if_neg (fun y => y a4), if_neg (fun y => y a4), if_neg (by decide : ¬ (1 : Int32) = 0), if_neg (fun y => y rfl : ¬ ¬ (2 : Int32) = 2), ck_nI (n := 121) (by omega) (by decide), ck_nI hd (by decide), n31 hd, bi_s (weigh_e hk8 _), ck_nI (n := 121) (by omega) (by decide), ck_nI hd (by decide), bi_s (weigh_e hk8 _)]
              have hnew : (nI i = -1 ∨ ∃ b : Nat, b < i + 1 ∧ (b : Int) < (u.1 0).toInt ∧ nI i = nI b ∧ wS (u.2 4) k (u.2 10 i &&& u.2 10 d) = wS (u.2 4) k (u.2 10 b &&& u.2 10 d) ∧ wS (u.2 4) k (u.2 10 i ||| u.2 10 d) = wS (u.2 4) k (u.2 10 b ||| u.2 10 d)) := Or.inr ⟨i, by omega, hic, rfl, rfl, rfl⟩
              rcases hf with hf | ⟨b, c1, c2, c3, c4, c5⟩
              · have eb : fm_isBetter w (nI i) f (nI k) (-1 : Int32) (u.2 10 d) = some (1 : Int32) := by
                  unfold fm_isBetter
                  rw [if_neg (by rw [hf]; decide)]
                rw [if_pos hf, bi_s eb, if_neg (by decide)]
                exact hrec _ _ _ hnew
              · have hb20 : b < 120 := by omega
                obtain ⟨r7, r8, r9, r10, _⟩ := R.2.2.2.1 b c2
                rw [if_neg (by rw [c3]; exact nI_m1 (by omega))]
                have e3 : fm_isBetter w (nI i) f (nI k) (-1 : Int32) (u.2 10 d) = if wS (u.2 4) k (u.2 10 i &&& u.2 10 d) * be ≤ bb * wS (u.2 4) k (u.2 10 i ||| u.2 10 d) then some (0 : Int32) else some (1 : Int32) := by
                  unfold fm_isBetter
                  rw [c3, if_pos (nI_pos' (by omega)), if_pos (by decide)]
                  unfold fm_isBetter_61
                  rw [ck_nI hi20 (by decide), bi_s (sum_e hk8 _), ck_nI hb20 (by decide), bi_s (sum_e hk8 _), ck_nI hb20 (by decide), bi_s (sum_e hk8 _), ck_nI hi20 (by decide), bi_s (sum_e hk8 _), n31 (by omega), n31 (by omega), ← q10, ← r10, ← RA_k R 4 (by decide), c4, c5]
                by_cases a5 : wS (u.2 4) k (u.2 10 i &&& u.2 10 d) * be ≤ bb * wS (u.2 4) k (u.2 10 i ||| u.2 10 d)
                · rw [bi_s (e3.trans (if_pos a5)), if_pos a5, if_pos rfl]
                  exact hrec f bb be hf'
                · rw [bi_s (e3.trans (if_neg a5)), if_neg a5, if_neg (by decide)]
                  exact hrec _ _ _ hnew
            · rw [if_pos a4, if_pos a4, if_pos rfl]; exact hrec f bb be hf'
          · rw [if_pos (cn_h a3), if_pos a3, if_pos rfl]; exact hrec f bb be hf'
      · rw [if_neg a1, if_pos (fun y => a1 (q8.trans y)), bi_s (rfl : some (0 : Int32) = some (0 : Int32)), if_pos rfl, if_pos rfl]; exact hrec f bb be hf'
def lastP (P : Nat → Bool) : Nat → Option Nat
  | 0 => none
  | n + 1 => if P n = true then some n else lastP P n
theorem lastP_s (P : Nat → Bool) (n : Nat) : lastP P (n + 1) = if P n = true then some n else lastP P n := rfl
theorem lastP_lt {P : Nat → Bool} : ∀ {n c : Nat}, lastP P n = some c → c < n := by
  intro n
  induction n with
  | zero => intro c h; cases h
  | succ n ih =>
    intro c h
    rw [lastP_s] at h
    by_cases q : P n = true
    · rw [if_pos q] at h; have := Option.some.inj h; omega
    · rw [if_neg q] at h; have := ih h; omega
def encO (o : Option Nat) : Int32 := match o with | none => -1 | some c => nI c
def agP (u : g_S) (d : Nat) (c : Nat) : Bool := decide (u.2 7 c = u.2 7 d ∧ ¬ cnV (hxV (u.2 16 c)) (opV (u.2 17 (u.2 13 c).toNatClampNeg)) = 0)
def agR (u : g_S) (d k : Nat) (o : Option Nat) : Option Int32 := match o with | none => some (-1 : Int32) | some c => if u.2 1 k < u.2 12 d - u.2 12 c then some (-1 : Int32) else some (nI c)
theorem line_c (I : IC g u) {d k : Nat} (hd : d < 121) (hk8 : k < 8) (hkd : u.2 8 d = nI k) : ∀ (n m : Nat), n < m → n ≤ 120 → fcJ_latestOfLine_10 u m (nI d) (nI n - (1 : Int32)) = agR u d k (lastP (agP u d) n) := by
  intro n
  induction n with
  | zero =>
    intro m hm _
    obtain ⟨m, rfl⟩ : ∃ m', m = m' + 1 := ⟨m - 1, by omega⟩
    rw [fcJ_latestOfLine_10_s, if_pos (by decide)]; rfl
  | succ n ih =>
    intro m hm hn
    obtain ⟨m, rfl⟩ : ∃ m', m = m' + 1 := ⟨m - 1, by omega⟩
    rw [nI_pred, fcJ_latestOfLine_10_s, if_neg (nI_pos (by omega)), ck_nI (n := 121) (by omega) (by decide), ck_nI hd (by decide), n31 (by omega), n31 hd, lastP_s]
    have hr : nI n + (-1 : Int32) = nI n - (1 : Int32) := by rw [Int32.sub_eq_add_neg]
    by_cases a : u.2 7 n = u.2 7 d
    · rw [if_neg (fun y => y a), bi_s (cn_c I (by omega))]
      by_cases b : cnV (hxV (u.2 16 n)) (opV (u.2 17 (u.2 13 n).toNatClampNeg)) = 0
      · rw [if_pos b, if_neg (by unfold agP; rw [decide_eq_true_eq]; exact fun y => y.2 b), hr]
        exact ih m (by omega) (by omega)
      · rw [if_neg b, if_pos (by unfold agP; rw [decide_eq_true_eq]; exact ⟨a, b⟩)]
        have hs : fcJ_isWithinSpan u (nI n) (nI d) = if u.2 1 k < u.2 12 d - u.2 12 n then some (0 : Int32) else some (1 : Int32) := by
          unfold fcJ_isWithinSpan
          rw [ck_nI hd (by decide), ck_nI (n := 121) (by omega) (by decide), ck_nI hd (by decide), n31 hd, n31 (show n < 121 by omega), hkd, ck_nI hk8 (by decide), nI_clamp (show k < 2 ^ 31 by omega)]
        rw [hs]
        show _ = (if u.2 1 k < u.2 12 d - u.2 12 n then some (-1 : Int32) else some (nI n))
        by_cases e : u.2 1 k < u.2 12 d - u.2 12 n
        · rw [if_pos e, if_pos e]; rfl
        · rw [if_neg e, if_neg e]; rfl
    · rw [if_pos a, if_neg (by unfold agP; rw [decide_eq_true_eq]; exact fun y => a y.1), hr]
      exact ih m (by omega) (by omega)
theorem line_m (R : RA u w) (S : RS u) (I : IC g u) (J : IM g w) {d k N : Nat} (hk8 : k < 8) (ht : 0 ≤ (u.2 12 d).toInt) (hN : w.1 1 = nI N) (hN2 : N ≤ 120) : ∀ (j i m : Nat), i + j = N → j < m → fm_again_6 w m (u.2 7 d) (nI k) (u.2 12 d) (encO (lastP (agP u d) i)) (nI i) = agR u d k (lastP (agP u d) N) := by
  have z0 : (nI N).toInt = N := nI_toInt (by omega)
  intro j
  induction j with
  | zero =>
    intro i m hi hm
    obtain ⟨m, rfl⟩ : ∃ m', m = m' + 1 := ⟨m - 1, by omega⟩
    obtain rfl : i = N := by omega
    rw [fm_again_6_s, hN, if_pos (nI_le (Nat.le_refl _) (by omega))]
    cases hl : lastP (agP u d) i with
    | none => rfl
    | some c =>
      have hc := lastP_lt hl
      have hcu : (c : Int) < (u.1 0).toInt := by rw [RA_z R, hN, z0]; omega
      obtain ⟨q7, q8, q9, q10, q12, _⟩ := R.2.2.2.1 c hcu
      rw [show encO (some c) = nI c from rfl, show agR u d k (some c) = (if u.2 1 k < u.2 12 d - u.2 12 c then some (-1 : Int32) else some (nI c)) from rfl, if_neg (nI_pos (by omega)), ck_nI (n := 120) (by omega) (by decide), ck_nI hk8 (by decide), n31 (show c < 121 by omega), nI_clamp (show k < 2 ^ 31 by omega), ← q12, ← RA_k R 1 (by decide)]
      by_cases e : u.2 1 k < u.2 12 d - u.2 12 c
      · rw [if_pos ((span_iff2 ht (S.2.1 c hcu).1).mpr e), if_pos e]
      · rw [if_neg (fun y => e ((span_iff2 ht (S.2.1 c hcu).1).mp y)), if_neg e]
  | succ j ih =>
    intro i m hi hm
    obtain ⟨m, rfl⟩ : ∃ m', m = m' + 1 := ⟨m - 1, by omega⟩
    have hiu : (i : Int) < (u.1 0).toInt := by rw [RA_z R, hN, z0]; omega
    obtain ⟨q7, q8, q9, q10, q12, q13, q14, q15, q16⟩ := R.2.2.2.1 i hiu
    have hev := ev_eq R S I hiu
    rw [fm_again_6_s, hN, if_neg (nI_ge (by omega) (by omega)), ck_nI (n := 120) (by omega) (by decide), n31 (by omega)]
    have hrec : ∀ f, f = encO (lastP (agP u d) (i + 1)) → fm_again_6 w m (u.2 7 d) (nI k) (u.2 12 d) f (nI i + (1 : Int32)) = agR u d k (lastP (agP u d) N) := fun f hf => by
      rw [nI_1, hf]; exact ih (i + 1) m (by omega) (by omega)
    by_cases a : u.2 7 i = u.2 7 d
    · rw [if_neg (fun y => y (q7 ▸ a)), bi_s (op_m J (by omega))]
      by_cases b : opV (w.2 16 (w.2 12 i).toNatClampNeg) = 0
      · rw [if_pos b]
        exact hrec _ (by rw [lastP_s, if_neg (by unfold agP; rw [decide_eq_true_eq]; exact fun y => y.2 (cn_o (by rw [hev]; exact b)))])
      · rw [if_neg b, bi_s (hx_m (by omega))]
        by_cases e : hxV (w.2 14 i) = 0
        · rw [if_neg (fun y => y e)]
          exact hrec _ (by rw [lastP_s, if_pos (by unfold agP; rw [decide_eq_true_eq]; exact ⟨a, by rw [cn_1 (by rw [q16]; exact e) (by rw [hev]; exact b)]; decide⟩)]; rfl)
        · rw [if_pos e]
          exact hrec _ (by rw [lastP_s, if_neg (by unfold agP; rw [decide_eq_true_eq]; exact fun y => y.2 (cn_h (by rw [q16]; exact e)))])
    · rw [if_pos (fun y => a (q7.trans y))]
      exact hrec _ (by rw [lastP_s, if_neg (by unfold agP; rw [decide_eq_true_eq]; exact fun y => a y.1)])
theorem again_eq (R : RA u w) (S : RS u) (I : IC g u) (J : IM g w) {d k : Nat} (hd : d < 121) (hk8 : k < 8) (hkd : u.2 8 d = nI k) (ht : 0 ≤ (u.2 12 d).toInt) : fcJ_latestOfLine u (nI d) = fm_again w (u.2 7 d) (nI k) (u.2 12 d) := by
  have z := IC_s I
  obtain ⟨N, hN1, hN⟩ := nI_of (x := u.1 0) (fun q => by have := Int32.lt_iff_toInt_lt.mp q; rw [show (0 : Int32).toInt = 0 by decide] at this; omega)
  have hN2 : N ≤ 120 := by have := nI_toInt hN1; rw [← hN] at this; omega
  show fcJ_latestOfLine_10 u 200 (nI d) ((u.1 0) - (1 : Int32)) = fm_again_6 w 200 (u.2 7 d) (nI k) (u.2 12 d) (-1 : Int32) (0 : Int32)
  rw [hN, line_c I hd hk8 hkd N 200 (by omega) hN2]
  exact (line_m R S I J hk8 ht (by rw [← RA_z R]; exact hN) hN2 N 0 200 (by omega) (by omega)).symm
end SRC
end
section
def pcE (w3 w6 w9 w12 s1 s2 : Int64) : Option Int32 :=
  if 0 < (lg_cmp ((w9 * w3) + (w12 * w6)) (0 : Int64)) then (if (lg_cmp ((w9 * w3) + (w12 * w6)) ((w3 * w3) + (w6 * w6))) < 0 then (if 0 < (lg_cmp (((w9 * w6) - (w12 * w3)) * ((w9 * w6) - (w12 * w3))) ((2500 : Int64) * ((w3 * w3) + (w6 * w6)))) then (some (0 : Int32)) else some (1 : Int32)) else if 0 < (lg_cmp s1 (2500 : Int64)) then (some (0 : Int32)) else some (1 : Int32)) else if 0 < (lg_cmp s2 (2500 : Int64)) then (some (0 : Int32)) else some (1 : Int32)
theorem ea_ (p : Int32) : fcJ_eastOf p = some (p / (10000 : Int32)) := rfl
theorem no_ (p : Int32) : fcJ_northOf p = some (p - p / (10000 : Int32) * (10000 : Int32)) := rfl
def d64 (a b : Int32) : Int64 := Int32.toInt64 (a / (10000 : Int32) - b / (10000 : Int32))
def n64 (a b : Int32) : Int64 := Int32.toInt64 ((a - a / (10000 : Int32) * (10000 : Int32)) - (b - b / (10000 : Int32) * (10000 : Int32)))
theorem pc_c (a b p : Int32) : fcR_isNearPiece a b p = pcE (d64 b a) (n64 b a) (d64 p a) (n64 p a) (sqr b p) (sqr a p) := by
  unfold fcR_isNearPiece pcE d64 n64
  rw [bi_s (ea_ b), bi_s (ea_ a), gl_r, bi_s (no_ b), bi_s (no_ a), gl_r, bi_s (ea_ p), bi_s (ea_ a), gl_r, bi_s (no_ p), bi_s (no_ a), gl_r, gl_r, gl_r, gl_r, bi_s (sqc b p), bi_s (sqc a p)]
theorem pc_m (a b p : Int32) : fm_isBeside p a b = pcE (d64 b a) (n64 b a) (d64 p a) (n64 p a) (sqr p b) (sqr p a) := by
  unfold fm_isBeside pcE d64 n64
  rw [gl_r, gl_r, gl_r, gl_r, gl_r, gl_r, gl_r, bi_s (sqm p b), show sqr p a = (Int32.toInt64 (p / (10000 : Int32) - a / (10000 : Int32))) * (Int32.toInt64 (p / (10000 : Int32) - a / (10000 : Int32))) + (Int32.toInt64 ((p - p / (10000 : Int32) * (10000 : Int32)) - (a - a / (10000 : Int32) * (10000 : Int32)))) * (Int32.toInt64 ((p - p / (10000 : Int32) * (10000 : Int32)) - (a - a / (10000 : Int32) * (10000 : Int32)))) from rfl]
theorem i64_sq {x : Int32} (h1 : -20000 ≤ x.toInt) (h2 : x.toInt ≤ 20000) : (x.toInt64 * x.toInt64).toInt = x.toInt * x.toInt := by
  rw [Int64.toInt_mul, Int32.toInt_toInt64]
  have h : 0 ≤ x.toInt * x.toInt := by
    rcases Int.le_total 0 x.toInt with q | q
    · exact Int.mul_nonneg q q
    · exact Int.mul_nonneg_of_nonpos_of_nonpos q q
  have h' : x.toInt * x.toInt ≤ 400000000 := by
    rcases Int.le_total 0 x.toInt with q | q
    · exact Int.le_trans (Int.mul_le_mul h2 h2 q (by decide)) (by decide)
    · have := Int.mul_le_mul (a := -x.toInt) (b := -x.toInt) (c := 20000) (d := 20000) (by omega) (by omega) (by omega) (by decide)
      rw [Int.neg_mul_neg] at this; omega
  exact Int.bmod_eq_of_le_mul_two (by omega) (by omega)
theorem sqr_toInt {m n : Nat} (hm : m < 100000000) (hn : n < 100000000) : (sqr (nI m) (nI n)).toInt = (((m / 10000 : Nat) : Int) - ((n / 10000 : Nat) : Int)) * (((m / 10000 : Nat) : Int) - ((n / 10000 : Nat) : Int)) + (((m % 10000 : Nat) : Int) - ((n % 10000 : Nat) : Int)) * (((m % 10000 : Nat) : Int) - ((n % 10000 : Nat) : Int)) := by
  have e1 : nI m / (10000 : Int32) = nI (m / 10000) := pk_div (d := 10000) (by omega) (by decide) (by decide)
  have e2 : nI n / (10000 : Int32) = nI (n / 10000) := pk_div (d := 10000) (by omega) (by decide) (by decide)
  have e3 : nI m - nI m / (10000 : Int32) * (10000 : Int32) = nI (m % 10000) := pk_rem (d := 10000) (by omega) (by decide) (by decide)
  have e4 : nI n - nI n / (10000 : Int32) * (10000 : Int32) = nI (n % 10000) := pk_rem (d := 10000) (by omega) (by decide) (by decide)
  unfold sqr
  rw [e3, e4, e1, e2]
  have d1 : (nI (m / 10000) - nI (n / 10000)).toInt = ((m / 10000 : Nat) : Int) - ((n / 10000 : Nat) : Int) := pk_sub_toInt (by omega) (by omega)
  have d2 : (nI (m % 10000) - nI (n % 10000)).toInt = ((m % 10000 : Nat) : Int) - ((n % 10000 : Nat) : Int) := pk_sub_toInt (by omega) (by omega)
  have q1 := i64_sq (x := nI (m / 10000) - nI (n / 10000)) (by rw [d1]; omega) (by rw [d1]; omega)
  have q2 := i64_sq (x := nI (m % 10000) - nI (n % 10000)) (by rw [d2]; omega) (by rw [d2]; omega)
  rw [Int64.toInt_add, q1, q2, d1, d2]
  have b1 : ∀ y : Int, -20000 ≤ y → y ≤ 20000 → 0 ≤ y * y ∧ y * y ≤ 400000000 := by
    intro y h1 h2
    rcases Int.le_total 0 y with q | q
    · exact ⟨Int.mul_nonneg q q, Int.le_trans (Int.mul_le_mul h2 h2 q (by decide)) (by decide)⟩
    · refine ⟨Int.mul_nonneg_of_nonpos_of_nonpos q q, ?_⟩
      have := Int.mul_le_mul (a := -y) (b := -y) (c := 20000) (d := 20000) (by omega) (by omega) (by omega) (by decide)
      rw [Int.neg_mul_neg] at this; omega
  have c1 := b1 (((m / 10000 : Nat) : Int) - ((n / 10000 : Nat) : Int)) (by omega) (by omega)
  have c2 := b1 (((m % 10000 : Nat) : Int) - ((n % 10000 : Nat) : Int)) (by omega) (by omega)
  exact Int.bmod_eq_of_le_mul_two (by omega) (by omega)
theorem sqr_comm {a b : Int32} (ha : 0 ≤ a.toInt ∧ a.toInt ≤ 99999999) (hb : 0 ≤ b.toInt ∧ b.toInt ≤ 99999999) : sqr a b = sqr b a := by
  have z0 : (0 : Int32).toInt = 0 := by decide
  obtain ⟨m, hm1, rfl⟩ := nI_of (x := a) (fun q => by have := Int32.lt_iff_toInt_lt.mp q; omega)
  obtain ⟨n, hn1, rfl⟩ := nI_of (x := b) (fun q => by have := Int32.lt_iff_toInt_lt.mp q; omega)
  rw [nI_toInt hm1] at ha
  rw [nI_toInt hn1] at hb
  refine Int64.toInt_inj.mp ?_
  rw [sqr_toInt (by omega) (by omega), sqr_toInt (by omega) (by omega)]
  have e : ∀ x y : Int, (x - y) * (x - y) = (y - x) * (y - x) := fun x y => by
    rw [← Int.neg_mul_neg (x - y) (x - y), Int.neg_sub]
  rw [e, e ((m % 10000 : Nat) : Int)]
theorem pc_eq {a b p : Int32} (ha : 0 ≤ a.toInt ∧ a.toInt ≤ 99999999) (hb : 0 ≤ b.toInt ∧ b.toInt ≤ 99999999) (hp : 0 ≤ p.toInt ∧ p.toInt ≤ 99999999) : fcR_isNearPiece a b p = fm_isBeside p a b := by
  rw [pc_c, pc_m, sqr_comm hb hp, sqr_comm ha hp]
theorem pcE_b (w3 w6 w9 w12 s1 s2 : Int64) : pcE w3 w6 w9 w12 s1 s2 = some (0 : Int32) ∨ pcE w3 w6 w9 w12 s1 s2 = some (1 : Int32) := by
  unfold pcE
  split
  · split
    · split
      · exact Or.inl rfl
      · exact Or.inr rfl
    · split
      · exact Or.inl rfl
      · exact Or.inr rfl
  · split
    · exact Or.inl rfl
    · exact Or.inr rfl
section NEA
variable {g : Nat → Int32} {u w : g_S}
theorem on1 {e hi : Nat} {p : Int32} (hh : hi ≤ 7) : ∀ (m i : Nat), i ≤ 7 → 8 ≤ m + i → fm_isOn_77 w m (nI e) p (nI hi) (1 : Int32) (nI i) = some (1 : Int32) := by
  intro m
  induction m with
  | zero => intro i h1 h2; omega
  | succ m ih =>
    intro i h1 h2
    rw [fm_isOn_77_s]
    by_cases h : hi ≤ i
    · rw [if_pos ((nI_leI (by omega) (by omega)).mpr h), if_pos (by decide)]
    · rw [if_neg (fun q => h ((nI_leI (by omega) (by omega)).mp q)), if_pos (by decide), nI_1]
      exact ih (i + 1) (by omega) (by omega)
theorem ix8 {r i : Nat} : (8 : Int32) * nI r + nI i = nI (8 * r + i) := by
  rw [show (8 : Int32) = nI 8 from rfl, pk_mul, nI_add]
theorem nearl_eq (hpt : ∀ j : Nat, 0 ≤ (u.2 6 j).toInt ∧ (u.2 6 j).toInt ≤ 99999999) (h6 : u.2 6 = w.2 6) {e r hi : Nat} {p : Int32} (he : e < 60) (hr : r < 8) (hw : w.2 17 e = nI r) (hh : hi ≤ 7) (hp : 0 ≤ p.toInt ∧ p.toInt ≤ 99999999) : ∀ (m i : Nat), i ≤ 7 → 8 ≤ m + i → fcR_isNear_9 u m (nI hi) p (nI (8 * r)) (nI i) = fm_isOn_77 w m (nI e) p (nI hi) (0 : Int32) (nI i) := by
  intro m
  induction m with
  | zero => intro i h1 h2; omega
  | succ m ih =>
    intro i h1 h2
    rw [fcR_isNear_9_s, fm_isOn_77_s]
    by_cases h : hi ≤ i
    · rw [if_pos ((nI_leI (by omega) (by omega)).mpr h), if_pos ((nI_leI (by omega) (by omega)).mpr h), if_pos (by decide)]
    · have hn : ¬ nI hi ≤ nI i := fun q => h ((nI_leI (by omega) (by omega)).mp q)
      have k0 : nI (8 * r) + nI i = nI (8 * r + i) := nI_add _ _
      have k1 : nI (8 * r + i) + (1 : Int32) = nI (8 * r + i + 1) := nI_1 _
      rw [if_neg hn, if_neg hn, if_neg (fun q => q rfl), k0, k1, ck_nI (n := 64) (by omega) (by decide), ck_nI (n := 64) (by omega) (by decide), nI_clamp (n := 8 * r + i) (by omega), nI_clamp (n := 8 * r + i + 1) (by omega)]
      rw [ck_nI he (by decide), nI_clamp (n := e) (by omega), hw, ix8, k1, ck_nI (n := 64) (by omega) (by decide), ck_nI he (by decide), ck_nI (n := 64) (by omega) (by decide), nI_clamp (n := 8 * r + i) (by omega), nI_clamp (n := 8 * r + i + 1) (by omega), ← h6]
      rw [pc_eq (hpt _) (hpt _) hp]
      rcases pcE_b (d64 (u.2 6 (8 * r + i + 1)) (u.2 6 (8 * r + i))) (n64 (u.2 6 (8 * r + i + 1)) (u.2 6 (8 * r + i))) (d64 p (u.2 6 (8 * r + i))) (n64 p (u.2 6 (8 * r + i))) (sqr p (u.2 6 (8 * r + i + 1))) (sqr p (u.2 6 (8 * r + i))) with q | q
      · rw [← pc_m] at q
        rw [bi_s q, bi_s q, if_pos rfl, if_pos rfl, nI_1]
        exact ih (i + 1) (by omega) (by omega)
      · rw [← pc_m] at q
        rw [bi_s q, bi_s q, if_neg (by decide), if_neg (by decide), nI_1]
        exact (on1 hh m (i + 1) (by omega) (by omega)).symm
theorem on_eq (R : RA u w) (S : RS u) (I : IC g u) (J : IM g w) {d e : Nat} (hd : d < 121) (he : (e : Int) < (u.1 1).toInt) (h3 : ¬ u.2 17 e = 3) (hr : ¬ u.2 20 e = -1) (hp : -1 ≤ (u.2 9 d).toInt ∧ (u.2 9 d).toInt ≤ 99999999) : fcJ_isOnStretch u (nI d) (nI e) = fm_isOn w (nI e) (u.2 9 d) (u.2 11 d) := by
  have z := IC_s I
  have z0 : (0 : Int32).toInt = 0 := by decide
  have zm : (-1 : Int32).toInt = -1 := by decide
  have he60 : e < 60 := by omega
  obtain ⟨-, hx⟩ := R.2.2.2.2 e he
  obtain ⟨h20, h21⟩ := hx h3
  have hst := h21 hr
  have r20 := IC_r20 I e
  have r21 := IC_r21 I e
  have r22 := IC_r22 I e
  obtain ⟨r, hr1, hr2⟩ := nI_of (x := u.2 20 e) (fun q => hr (Int32.toInt_inj.mp (by have := Int32.lt_iff_toInt_lt.mp q; omega)))
  have hr8 : r < 8 := by have := nI_toInt hr1; rw [← hr2] at this; omega
  obtain ⟨lo, hlo1, hlo2⟩ := nI_of (x := u.2 21 e) (fun q => by have := Int32.lt_iff_toInt_lt.mp q; omega)
  have hlo : lo ≤ 7 := by have := nI_toInt hlo1; rw [← hlo2] at this; omega
  obtain ⟨hi, hhi1, hhi2⟩ := nI_of (x := u.2 22 e) (fun q => by have := Int32.lt_iff_toInt_lt.mp q; omega)
  have hhi : hi ≤ 7 := by have := nI_toInt hhi1; rw [← hhi2] at this; omega
  unfold fcJ_isOnStretch fm_isOn
  rw [ck_nI he60 (by decide), nI_clamp (n := e) (by omega)]
  show (ck (nI d) 121 <| _) = _
  rw [ck_nI hd (by decide), n31 hd]
  show (if ¬ u.2 9 d = -1 then _ else _) = _
  by_cases a : u.2 9 d = -1
  · rw [if_neg (fun q => q a), if_neg (show ¬ (0 : Int32) ≤ u.2 9 d by rw [a]; decide), ck_nI hd (by decide), ck_nI he60 (by decide), ← h20]
  · have hp0 : 0 ≤ (u.2 9 d).toInt := by
      rcases Int.lt_or_le (u.2 9 d).toInt 0 with q | q
      · exact absurd (Int32.toInt_inj.mp (by omega)) a
      · exact q
    have e0 : (0 : Int32) ≤ u.2 9 d := Int32.le_iff_toInt_le.mpr (by omega)
    rw [if_pos a, if_pos e0, ck_nI he60 (by decide), ck_nI he60 (by decide), ck_nI he60 (by decide), ck_nI he60 (by decide), ck_nI he60 (by decide), ck_nI he60 (by decide)]
    have hcl : fcR_isNear u (u.2 20 e) (u.2 21 e) (u.2 22 e) (u.2 9 d) = fm_isOn_77 w 200 (nI e) (u.2 9 d) (nI hi) (0 : Int32) (nI lo) := by
      show fcR_isNear_9 u 200 (u.2 22 e) (u.2 9 d) (u.2 20 e * (8 : Int32)) (u.2 21 e) = _
      rw [hr2, hlo2, hhi2, show nI r * (8 : Int32) = nI (8 * r) by rw [show (8 : Int32) = nI 8 from rfl, pk_mul, Nat.mul_comm]]
      exact nearl_eq S.1 (RA_k R 6 (by decide)) he60 hr8 (by rw [← h20]; exact hr2) hhi ⟨hp0, hp.2⟩ 200 lo hlo (by omega)
    have hb : ∃ v, fcR_isNear u (u.2 20 e) (u.2 21 e) (u.2 22 e) (u.2 9 d) = some v ∧ (v = 0 ∨ v = 1) := by
      obtain ⟨v, hv, hv2, -⟩ := okk_fcR_isNear I (p1 := u.2 20 e) (p2 := u.2 21 e) (p3 := u.2 22 e) (p4 := u.2 9 d) (by rw [hr2, nI_toInt hr1]; omega) (by omega) (by omega) (by omega) (by omega)
      exact ⟨v, hv, hv2⟩
    obtain ⟨v, hv, hv2⟩ := hb
    rw [bi_s hv, if_pos hv2, ← hv, hcl]
    rcases hst with ⟨t1, t2, t3⟩ | ⟨t1, t2, t3⟩
    · rw [if_neg (fun q => by have := Int32.le_iff_toInt_le.mp q; omega)]
      unfold fm_isOn_50
      rw [ck_nI he60 (by decide), ck_nI he60 (by decide), nI_clamp (n := e) (by omega)]
      show _ = fm_isOn_77 w 200 (nI e) (u.2 9 d) ((w.2 18 e + w.2 19 e) - w.2 18 e) (0 : Int32) (w.2 18 e)
      rw [← t1, ← t2, hlo2, hhi2, Int32.add_comm (nI lo) (nI hi), Int32.add_sub_cancel]
    · rw [if_pos (Int32.le_iff_toInt_le.mpr (by omega))]
      unfold fm_isOn_50
      rw [ck_nI he60 (by decide), ck_nI he60 (by decide), nI_clamp (n := e) (by omega)]
      show _ = fm_isOn_77 w 200 (nI e) (u.2 9 d) ((w.2 18 e + w.2 19 e) - w.2 19 e) (0 : Int32) (w.2 19 e)
      rw [← t1, ← t2, hlo2, hhi2, Int32.add_sub_cancel]
end NEA
end
section
section RSN
variable {g : Nat → Int32} {u w : g_S}
theorem first_m (R : RA u w) (S : RS u) (I : IC g u) (J : IM g w) {e : Nat} (he : (e : Int) < (u.1 1).toInt) (h3 : ¬ u.2 17 e = 3) : fm_firstOf w (nI e) = some (u.2 19 e) := by
  have z := IC_s I
  have c1 : (nI e).toInt = e := nI_toInt (by omega)
  have c2 : (nI e).toNatClampNeg = e := nI_clamp (by omega)
  obtain ⟨r, hr, b1, b2, b3, b4⟩ := okk_firstO J (e := nI e) (by omega) (by rw [← RA_e R]; omega) (by rw [c2, ← (R.2.2.2.2 e he).1]; exact h3)
  have hc : (r.toNatClampNeg : Int) = r.toInt := cl_I b1
  have hru : (r.toNatClampNeg : Int) < (u.1 0).toInt := by rw [RA_z R]; omega
  obtain ⟨-, -, -, -, -, q13, q14, -⟩ := R.2.2.2.1 _ hru
  have hu := (S.2.2.2 e he h3).2.2.2.2.2 r.toNatClampNeg hru (by rw [q13, b3]; exact c1) (by rw [q14]; exact b4)
  rw [hr, Int32.toInt_inj.mp (show r.toInt = (u.2 19 e).toInt by omega)]
theorem stretch_eq (R : RA u w) (S : RS u) (I : IC g u) (J : IM g w) {d k : Nat} (hd : d < 121) (hk8 : k < 8) (hkd : u.2 8 d = nI k) (hp : -1 ≤ (u.2 9 d).toInt ∧ (u.2 9 d).toInt ≤ 99999999) : ∀ (n i : Nat), i ≤ 60 → fcJ_firstOnStretch_2 u n (nI d) (nI i) = fm_onStretch_3 w n (nI k) (u.2 9 d) (u.2 11 d) (nI i) := by
  have z := IC_s I
  have zm : (-1 : Int32).toInt = -1 := by decide
  have z0 : (0 : Int32).toInt = 0 := by decide
  intro n
  induction n with
  | zero => intro i _; rfl
  | succ n ih =>
    intro i hi
    rw [fcJ_firstOnStretch_2_s, fm_onStretch_3_s, RA_e R]
    by_cases h : w.1 2 ≤ nI i
    · rw [if_pos h, if_pos h]
    · rw [if_neg h, if_neg h]
      have hie : (i : Int) < (u.1 1).toInt := by
        have e := mt Int32.le_iff_toInt_le.mpr h
        rw [nI_toInt (by omega), ← RA_e R] at e
        omega
      have hi60 : i < 60 := by omega
      have hrec : fcJ_firstOnStretch_2 u n (nI d) (nI i + (1 : Int32)) = fm_onStretch_3 w n (nI k) (u.2 9 d) (u.2 11 d) (nI i + (1 : Int32)) := by
        rw [nI_1]; exact ih (i + 1) (by omega)
      obtain ⟨h17, hx⟩ := R.2.2.2.2 i hie
      have ni : (nI i).toNatClampNeg = i := nI_clamp (by omega)
      have Ei : ∀ {β : Type} (x : Option β), ck (nI i) 60 x = x := fun x => ck_nI hi60 (by decide)
      have hwf : fcE_isWatchedFor u (nI i) (nI k) = if ¬ u.2 17 i = 0 then some (0 : Int32) else if ¬ u.2 18 i = nI k then some (0 : Int32) else if u.2 20 i = -1 then some (0 : Int32) else some (1 : Int32) := by
        unfold fcE_isWatchedFor
        rw [Ei, ni, Ei, Ei]
      rw [ck_nI hd (by decide), n31 hd, hkd, Ei, Ei, ni, ← h17]
      by_cases a1 : u.2 17 i = 0
      · have h3 : ¬ u.2 17 i = 3 := by rw [a1]; decide
        obtain ⟨h20, -⟩ := hx h3
        obtain ⟨f1, f2, f3, f4, f5, f6⟩ := S.2.2.2 i hie h3
        have hcf : ((u.2 19 i).toNatClampNeg : Int) = (u.2 19 i).toInt := cl_I f1
        obtain ⟨-, q8, -⟩ := R.2.2.2.1 _ (show ((u.2 19 i).toNatClampNeg : Int) < (u.1 0).toInt by omega)
        have r20 := IC_r20 I i
        rw [if_neg (fun q => q a1)] at hwf
        have a1' : ¬ ¬ u.2 17 i = 0 := fun q => q a1
        by_cases a2 : u.2 20 i = -1
        · have hw0 : fcE_isWatchedFor u (nI i) (nI k) = some (0 : Int32) := by
            rw [hwf]
            by_cases a3 : u.2 18 i = nI k
            · rw [if_neg (fun q => q a3), if_pos a2]
            · rw [if_pos a3]
          rw [bi_s hw0, if_pos rfl, if_neg a1', Ei, ← h20, if_pos (show u.2 20 i < 0 by rw [a2]; decide), if_pos rfl]
          exact hrec
        · have hlt : ¬ u.2 20 i < 0 := fun q => a2 (Int32.toInt_inj.mp (by have := Int32.lt_iff_toInt_lt.mp q; omega))
          by_cases a3 : u.2 18 i = nI k
          · have hw1 : fcE_isWatchedFor u (nI i) (nI k) = some (1 : Int32) := by
              rw [hwf, if_neg (fun q => q a3), if_neg a2]
            have a3' : ¬ ¬ u.2 8 (u.2 19 i).toNatClampNeg = nI k := fun q => q (by rw [← f5]; exact a3)
            obtain ⟨v, hv, -⟩ := okk_fm_isOn J (p1 := nI i) (p2 := u.2 9 d) (p3 := u.2 11 d) (by rw [nI_toInt (by omega)]; omega) (by rw [nI_toInt (by omega)]; omega) (by rw [ni, ← h20]; rcases Int.lt_or_le (u.2 20 i).toInt 0 with q | q; exact absurd (Int32.toInt_inj.mp (by omega)) a2; exact q)
            have hon := (on_eq R S I J hd hie h3 a2 hp).trans hv
            have hfi := first_m R S I J hie h3
            rw [bi_s hw1, if_neg (by decide), if_neg a1', Ei, ← h20, if_neg hlt, bi_s hfi, ck_in (vp_I f1 (by omega)), ← q8, if_neg a3', if_neg (by decide), bi_s hon, bi_s hv]
            by_cases a4 : v = 0
            · rw [if_pos a4, if_pos a4]; exact hrec
            · rw [if_neg a4, if_neg a4, bi_s hfi]
          · have hw0 : fcE_isWatchedFor u (nI i) (nI k) = some (0 : Int32) := by
              rw [hwf, if_pos a3]
            have a3' : ¬ u.2 8 (u.2 19 i).toNatClampNeg = nI k := fun q => a3 (by rw [f5]; exact q)
            rw [bi_s hw0, if_pos rfl, if_neg a1', Ei, ← h20, if_neg hlt, bi_s (first_m R S I J hie h3), ck_in (vp_I f1 (by omega)), ← q8, if_pos a3', if_pos rfl]
            exact hrec
      · have hw0 : fcE_isWatchedFor u (nI i) (nI k) = some (0 : Int32) := by
          rw [hwf, if_pos a1]
        rw [bi_s hw0, if_pos rfl, if_pos a1, if_pos rfl]
        exact hrec
theorem stretch0 (R : RA u w) (S : RS u) (I : IC g u) (J : IM g w) {d k : Nat} (hd : d < 121) (hk8 : k < 8) (hkd : u.2 8 d = nI k) (hp : -1 ≤ (u.2 9 d).toInt ∧ (u.2 9 d).toInt ≤ 99999999) : fcJ_firstOnStretch u (nI d) = fm_onStretch w (nI k) (u.2 9 d) (u.2 11 d) := by
  have h := stretch_eq R S I J hd hk8 hkd hp 200 0 (by omega)
  rw [nI_0] at h
  unfold fcJ_firstOnStretch fm_onStretch
  exact h
theorem near0 (R : RA u w) (S : RS u) (I : IC g u) (J : IM g w) {d k : Nat} (hd : d < 121) (hk8 : k < 8) (hkd : u.2 8 d = nI k) (ht : 0 ≤ (u.2 12 d).toInt) (hp : -1 ≤ (u.2 9 d).toInt) : fcJ_nearestByPlace u (nI d) = fm_agreeing w (1 : Int32) (nI k) (u.2 9 d) (u.2 10 d) (u.2 12 d) := by
  have h := near_eq R S I J hd hk8 hkd ht hp 200 0 (-1) 0 (Or.inl rfl) (by omega)
  rw [nI_0] at h
  unfold fcJ_nearestByPlace fm_agreeing
  exact h
theorem great0 (R : RA u w) (S : RS u) (I : IC g u) (J : IM g w) {d k : Nat} (hd : d < 121) (hk8 : k < 8) (hkd : u.2 8 d = nI k) (ht : 0 ≤ (u.2 12 d).toInt) (hp : -1 ≤ (u.2 9 d).toInt) : fcJ_greatestShare u (nI d) = fm_agreeing w (2 : Int32) (nI k) (u.2 9 d) (u.2 10 d) (u.2 12 d) := by
  have h := great_eq R S I J hd hk8 hkd ht hp 200 0 (-1) 0 1 (Or.inl rfl) (by omega)
  rw [nI_0] at h
  unfold fcJ_greatestShare fm_agreeing
  rw [ck_nI hd (by decide), gl_r, n31 hd, hkd]
  exact h
theorem RA_3 (R : RA u w) (v : Int32) : RA u (g_sI w 3 v) := R
theorem RA_0 (R : RA u w) (v : Int32) : RA u (g_sI w 0 v) := R
theorem enc_m {r : Int32} (h : -1 ≤ r.toInt) : r < 0 ↔ r = -1 := by
  have zm : (-1 : Int32).toInt = -1 := by decide
  rw [Int32.lt_iff_toInt_lt, show (0 : Int32).toInt = 0 by decide]
  exact ⟨fun q => Int32.toInt_inj.mp (by omega), fun q => by rw [q, zm]; decide⟩
def tkS (u : g_S) (d : Nat) (r h : Int32) : g_S := g_sA (g_sA u 14 (nI d) r) 15 (nI d) h
theorem take_1 {d : Nat} (hd : d < 121) {r : Int32} (h : Int32) (hr : ¬ r = -1) : fcJ_takeReason u (nI d) r h = some ((1 : Int32), tkS u d r h) := by
  unfold fcJ_takeReason
  rw [if_pos hr, ck_nI hd (by decide)]
  show (ck (nI d) 121 <| _) = _
  rw [ck_nI hd (by decide)]; rfl
theorem take_0 {p h : Int32} : fcJ_takeReason u p (-1 : Int32) h = some ((0 : Int32), u) := by
  unfold fcJ_takeReason
  rw [if_neg (fun q => q rfl)]
theorem seek_eq (R : RA u w) (S : RS u) (I : IC g u) (J : IM g w) {d k : Nat} (hd : d < 121) (hk8 : k < 8) (hkd : u.2 8 d = nI k) (ht : 0 ≤ (u.2 12 d).toInt) (hp : -1 ≤ (u.2 9 d).toInt ∧ (u.2 9 d).toInt ≤ 99999999) :
    ∃ r h : Int32, ∃ w' : g_S, fm_reason w (u.2 7 d) (nI k) (u.2 9 d) (u.2 10 d) (u.2 11 d) (u.2 12 d) = some (r, w') ∧ w'.2 = w.2 ∧ w'.1 0 = w.1 0 ∧ w'.1 1 = w.1 1 ∧ w'.1 2 = w.1 2 ∧ w'.1 3 = h ∧ IM g w' ∧ -1 ≤ r.toInt ∧ r.toInt < (u.1 0).toInt ∧ (r = -1 → h = 0) ∧ fcJ_seekReason u (nI d) = some (if r = -1 then u else tkS u d r h) := by
  have z := IC_s I
  have kI : (nI k).toInt = k := nI_toInt (by omega)
  have J1 : IM g (g_sI w 3 1) := IM_ix J _ (by decide)
  have J2 : IM g (g_sI (g_sI w 3 1) 3 2) := IM_ix J1 _ (by decide)
  have J3 : IM g (g_sI (g_sI (g_sI w 3 1) 3 2) 3 3) := IM_ix J2 _ (by decide)
  have J4 : IM g (g_sI (g_sI (g_sI (g_sI w 3 1) 3 2) 3 3) 3 4) := IM_ix J3 _ (by decide)
  have R1 : RA u (g_sI w 3 1) := R
  have R2 : RA u (g_sI (g_sI w 3 1) 3 2) := R
  have R3 : RA u (g_sI (g_sI (g_sI w 3 1) 3 2) 3 3) := R
  have R4 : RA u (g_sI (g_sI (g_sI (g_sI w 3 1) 3 2) 3 3) 3 4) := R
  obtain ⟨r1, e1, a1, a1'⟩ := okk_fm_again J1 (p1 := u.2 7 d) (p2 := nI k) (p3 := u.2 12 d) (by omega) (by omega)
  have c1 : fcJ_latestOfLine u (nI d) = some r1 := (again_eq R1 S I J1 hd hk8 hkd ht).trans e1
  have a1' : r1.toInt < (u.1 0).toInt := by rw [RA_z R]; exact a1'
  unfold fcJ_seekReason
  by_cases h1 : r1 = -1
  · obtain ⟨r2, e2, a2, a2'⟩ := okk_fm_onStretch J2 (p1 := nI k) (p2 := u.2 9 d) (p3 := u.2 11 d)
    have c2 : fcJ_firstOnStretch u (nI d) = some r2 := (stretch0 R2 S I J2 hd hk8 hkd hp).trans e2
    have a2' : r2.toInt < (u.1 0).toInt := by rw [RA_z R]; exact a2'
    by_cases h2 : r2 = -1
    · obtain ⟨r3, e3, a3, a3'⟩ := okk_fm_agreeing J3 (p1 := (1 : Int32)) (p2 := nI k) (p3 := u.2 9 d) (p4 := u.2 10 d) (p5 := u.2 12 d) (by omega) (by omega)
      have c3 : fcJ_nearestByPlace u (nI d) = some r3 := (near0 R3 S I J3 hd hk8 hkd ht hp.1).trans e3
      have a3' : r3.toInt < (u.1 0).toInt := by rw [RA_z R]; exact a3'
      by_cases h3 : r3 = -1
      · obtain ⟨r4, e4, a4, a4'⟩ := okk_fm_agreeing J4 (p1 := (2 : Int32)) (p2 := nI k) (p3 := u.2 9 d) (p4 := u.2 10 d) (p5 := u.2 12 d) (by omega) (by omega)
        have c4 : fcJ_greatestShare u (nI d) = some r4 := (great0 R4 S I J4 hd hk8 hkd ht hp.1).trans e4
        have a4' : r4.toInt < (u.1 0).toInt := by rw [RA_z R]; exact a4'
        by_cases h4 : r4 = -1
        · refine ⟨-1, 0, g_sI (g_sI (g_sI (g_sI (g_sI w 3 1) 3 2) 3 3) 3 4) 3 0, ?_, rfl, rfl, rfl, rfl, rfl, IM_ix J4 _ (by decide), by decide, by rw [show (-1 : Int32).toInt = -1 by decide]; omega, fun _ => rfl, ?_⟩
          · unfold fm_reason
            rw [gl_r, bi_s e1, if_pos ((enc_m a1).mpr h1)]
            rw [gl_r, bi_s e2, if_pos ((enc_m a2).mpr h2)]
            rw [gl_r, bi_s e3, if_pos ((enc_m a3).mpr h3)]
            rw [gl_r, bi_s e4, if_pos ((enc_m a4).mpr h4), gl_r, h4]
          · rw [bi_s c1, h1, bi_s take_0]
            dsimp only
            rw [if_pos rfl, bi_s c2, h2, bi_s take_0]
            dsimp only
            rw [if_pos rfl, bi_s c3, h3, bi_s take_0]
            dsimp only
            rw [if_pos rfl, bi_s c4, h4, bi_s take_0, if_pos rfl]
        · refine ⟨r4, 4, g_sI (g_sI (g_sI (g_sI (g_sI w 3 1) 3 2) 3 3) 3 4) 3 4, ?_, rfl, rfl, rfl, rfl, rfl, IM_ix J4 _ (by decide), a4, a4', fun q => absurd q h4, ?_⟩
          · unfold fm_reason
            rw [gl_r, bi_s e1, if_pos ((enc_m a1).mpr h1)]
            rw [gl_r, bi_s e2, if_pos ((enc_m a2).mpr h2)]
            rw [gl_r, bi_s e3, if_pos ((enc_m a3).mpr h3)]
            rw [gl_r, bi_s e4, if_neg (fun q => h4 ((enc_m a4).mp q)), gl_r]
          · rw [bi_s c1, h1, bi_s take_0]
            dsimp only
            rw [if_pos rfl, bi_s c2, h2, bi_s take_0]
            dsimp only
            rw [if_pos rfl, bi_s c3, h3, bi_s take_0]
            dsimp only
            rw [if_pos rfl, bi_s c4, bi_s (take_1 hd 4 h4), if_neg h4]
      · refine ⟨r3, 3, g_sI (g_sI (g_sI w 3 1) 3 2) 3 3, ?_, rfl, rfl, rfl, rfl, rfl, J3, a3, a3', fun q => absurd q h3, ?_⟩
        · unfold fm_reason
          rw [gl_r, bi_s e1, if_pos ((enc_m a1).mpr h1)]
          rw [gl_r, bi_s e2, if_pos ((enc_m a2).mpr h2)]
          rw [gl_r, bi_s e3, if_neg (fun q => h3 ((enc_m a3).mp q))]
        · rw [bi_s c1, h1, bi_s take_0]
          dsimp only
          rw [if_pos rfl, bi_s c2, h2, bi_s take_0]
          dsimp only
          rw [if_pos rfl, bi_s c3, bi_s (take_1 hd 3 h3)]
          dsimp only
          rw [if_neg (by decide), if_neg h3]
    · refine ⟨r2, 2, g_sI (g_sI w 3 1) 3 2, ?_, rfl, rfl, rfl, rfl, rfl, J2, a2, a2', fun q => absurd q h2, ?_⟩
      · unfold fm_reason
        rw [gl_r, bi_s e1, if_pos ((enc_m a1).mpr h1)]
        rw [gl_r, bi_s e2, if_neg (fun q => h2 ((enc_m a2).mp q))]
      · rw [bi_s c1, h1, bi_s take_0]
        dsimp only
        rw [if_pos rfl, bi_s c2, bi_s (take_1 hd 2 h2)]
        dsimp only
        rw [if_neg (by decide), if_neg h2]
  · refine ⟨r1, 1, g_sI w 3 1, ?_, rfl, rfl, rfl, rfl, rfl, J1, a1, a1', fun q => absurd q h1, ?_⟩
    · unfold fm_reason
      rw [gl_r, bi_s e1, if_neg (fun q => h1 ((enc_m a1).mp q))]
    · rw [bi_s c1, bi_s (take_1 hd 1 h1)]
      dsimp only
      rw [if_neg (by decide), if_neg h1]
end RSN
end
section
section SIM
variable {g : Nat → Int32} {u w : g_S}
theorem eqf_w (k : Nat) (i v : Int32) (k' : Nat) (h : ¬ k' = k) : (g_sA u k i v).2 k' = u.2 k' := funext (fun j => eq_w k i v k' j h)
theorem RS_ext {u' : g_S} (h0 : u'.1 0 = u.1 0) (h1 : u'.1 1 = u.1 1) (h6 : u'.2 6 = u.2 6) (h8 : u'.2 8 = u.2 8) (h9 : u'.2 9 = u.2 9) (h12 : u'.2 12 = u.2 12) (h13 : u'.2 13 = u.2 13) (h14 : u'.2 14 = u.2 14) (h17 : u'.2 17 = u.2 17) (h18 : u'.2 18 = u.2 18) (h19 : u'.2 19 = u.2 19) (S : RS u) : RS u' := by
  unfold RS
  rw [h0, h1, h6, h8, h9, h12, h13, h14, h17, h18, h19]
  exact S
theorem rdk (v : g_S) (k : Nat) (i x : Int32) (e : Nat) : (g_sA v k i x).2 k e = if e = i.toNatClampNeg then x else v.2 k e := by
  rw [rdA]
  by_cases y : e = i.toNatClampNeg
  · rw [if_pos ⟨rfl, y⟩, if_pos y]
  · rw [if_neg (fun q => y q.2), if_neg y]
theorem RS_w (S : RS u) (k : Nat) (i v : Int32) (hk : ¬ 6 = k ∧ ¬ 8 = k ∧ ¬ 9 = k ∧ ¬ 12 = k ∧ ¬ 13 = k ∧ ¬ 14 = k ∧ ¬ 17 = k ∧ ¬ 18 = k ∧ ¬ 19 = k) : RS (g_sA u k i v) :=
  RS_ext (u := u) rfl rfl (eqf_w k i v 6 hk.1) (eqf_w k i v 8 hk.2.1) (eqf_w k i v 9 hk.2.2.1) (eqf_w k i v 12 hk.2.2.2.1) (eqf_w k i v 13 hk.2.2.2.2.1) (eqf_w k i v 14 hk.2.2.2.2.2.1) (eqf_w k i v 17 hk.2.2.2.2.2.2.1) (eqf_w k i v 18 hk.2.2.2.2.2.2.2.1) (eqf_w k i v 19 hk.2.2.2.2.2.2.2.2) S
theorem RA_ws (R : RA u w) (k : Nat) (i v : Int32) (hk : k < 7) : RA (g_sA u k i v) (g_sA w k i v) := by
  obtain ⟨r1, r2, r3, r4, r5⟩ := R
  refine ⟨r1, r2, fun k' hk' => ?_, fun c hc => ?_, fun e he => ?_⟩
  · funext j
    rw [rdA, rdA]
    by_cases q : k' = k ∧ j = i.toNatClampNeg
    · rw [if_pos q, if_pos q]
    · rw [if_neg q, if_neg q, r3 k' hk']
  · rw [eqf_w k i v 7 (by omega), eqf_w k i v 8 (by omega), eqf_w k i v 9 (by omega), eqf_w k i v 10 (by omega), eqf_w k i v 12 (by omega), eqf_w k i v 13 (by omega), eqf_w k i v 14 (by omega), eqf_w k i v 15 (by omega), eqf_w k i v 16 (by omega), eqf_w k i v 7 (by omega), eqf_w k i v 8 (by omega), eqf_w k i v 9 (by omega), eqf_w k i v 10 (by omega), eqf_w k i v 11 (by omega), eqf_w k i v 12 (by omega), eqf_w k i v 13 (by omega), eqf_w k i v 15 (by omega), eqf_w k i v 14 (by omega)]
    exact r4 c hc
  · rw [eqf_w k i v 17 (by omega), eqf_w k i v 20 (by omega), eqf_w k i v 21 (by omega), eqf_w k i v 22 (by omega), eqf_w k i v 16 (by omega), eqf_w k i v 17 (by omega), eqf_w k i v 18 (by omega), eqf_w k i v 19 (by omega)]
    exact r5 e he
theorem RA_mark (R : RA u w) (i v : Int32) : RA (g_sA u 16 i v) (g_sA w 14 i v) := by
  obtain ⟨r1, r2, r3, r4, r5⟩ := R
  refine ⟨r1, r2, fun k' hk' => ?_, fun c hc => ?_, fun e he => ?_⟩
  · rw [eqf_w 16 i v k' (by omega), eqf_w 14 i v k' (by omega)]; exact r3 k' hk'
  · obtain ⟨q7, q8, q9, q10, q12, q13, q14, q15, q16⟩ := r4 c hc
    refine ⟨?_, ?_, ?_, ?_, ?_, ?_, ?_, ?_, ?_⟩
    · rw [eqf_w 16 i v 7 (by decide), eqf_w 14 i v 7 (by decide)]; exact q7
    · rw [eqf_w 16 i v 8 (by decide), eqf_w 14 i v 8 (by decide)]; exact q8
    · rw [eqf_w 16 i v 9 (by decide), eqf_w 14 i v 9 (by decide)]; exact q9
    · rw [eqf_w 16 i v 10 (by decide), eqf_w 14 i v 10 (by decide)]; exact q10
    · rw [eqf_w 16 i v 12 (by decide), eqf_w 14 i v 11 (by decide)]; exact q12
    · rw [eqf_w 16 i v 13 (by decide), eqf_w 14 i v 12 (by decide)]; exact q13
    · rw [eqf_w 16 i v 14 (by decide), eqf_w 14 i v 13 (by decide)]; exact q14
    · rw [eqf_w 16 i v 15 (by decide), eqf_w 14 i v 15 (by decide)]; exact q15
    · rw [rdA, rdA]
      by_cases z : c = i.toNatClampNeg
      · rw [if_pos ⟨rfl, z⟩, if_pos ⟨rfl, z⟩]
      · rw [if_neg (fun y => z y.2), if_neg (fun y => z y.2)]; exact q16
  · rw [eqf_w 16 i v 17 (by decide), eqf_w 16 i v 20 (by decide), eqf_w 16 i v 21 (by decide), eqf_w 16 i v 22 (by decide), eqf_w 14 i v 16 (by decide), eqf_w 14 i v 17 (by decide), eqf_w 14 i v 18 (by decide), eqf_w 14 i v 19 (by decide)]
    exact r5 e he
theorem RA_state (R : RA u w) (i v : Int32) (h3 : ¬ u.2 17 i.toNatClampNeg = 3) : RA (g_sA u 17 i v) (g_sA w 16 i v) := by
  obtain ⟨r1, r2, r3, r4, r5⟩ := R
  refine ⟨r1, r2, fun k' hk' => ?_, fun c hc => ?_, fun e he => ?_⟩
  · rw [eqf_w 17 i v k' (by omega), eqf_w 16 i v k' (by omega)]; exact r3 k' hk'
  · obtain ⟨q7, q8, q9, q10, q12, q13, q14, q15, q16⟩ := r4 c hc
    refine ⟨?_, ?_, ?_, ?_, ?_, ?_, ?_, ?_, ?_⟩
    · rw [eqf_w 17 i v 7 (by decide), eqf_w 16 i v 7 (by decide)]; exact q7
    · rw [eqf_w 17 i v 8 (by decide), eqf_w 16 i v 8 (by decide)]; exact q8
    · rw [eqf_w 17 i v 9 (by decide), eqf_w 16 i v 9 (by decide)]; exact q9
    · rw [eqf_w 17 i v 10 (by decide), eqf_w 16 i v 10 (by decide)]; exact q10
    · rw [eqf_w 17 i v 12 (by decide), eqf_w 16 i v 11 (by decide)]; exact q12
    · rw [eqf_w 17 i v 13 (by decide), eqf_w 16 i v 12 (by decide)]; exact q13
    · rw [eqf_w 17 i v 14 (by decide), eqf_w 16 i v 13 (by decide)]; exact q14
    · rw [eqf_w 17 i v 15 (by decide), eqf_w 16 i v 15 (by decide)]; exact q15
    · rw [eqf_w 17 i v 16 (by decide), eqf_w 16 i v 14 (by decide)]; exact q16
  · obtain ⟨q17, qx⟩ := r5 e he
    refine ⟨?_, fun h => ?_⟩
    · rw [rdA, rdA]
      by_cases z : e = i.toNatClampNeg
      · rw [if_pos ⟨rfl, z⟩, if_pos ⟨rfl, z⟩]
      · rw [if_neg (fun y => z y.2), if_neg (fun y => z y.2)]; exact q17
    · have h' : ¬ u.2 17 e = 3 := by
        rw [rdA] at h
        by_cases z : e = i.toNatClampNeg
        · rw [z]; exact h3
        · rw [if_neg (fun y => z y.2)] at h; exact h
      rw [eqf_w 17 i v 20 (by decide), eqf_w 17 i v 21 (by decide), eqf_w 17 i v 22 (by decide), eqf_w 16 i v 17 (by decide), eqf_w 16 i v 18 (by decide), eqf_w 16 i v 19 (by decide)]
      exact qx h'
theorem RS_state (S : RS u) (i v : Int32) (h3 : ¬ u.2 17 i.toNatClampNeg = 3) : RS (g_sA u 17 i v) := by
  obtain ⟨s1, s2, s3, s4⟩ := S
  refine ⟨?_, ?_, ?_, fun e he h => ?_⟩
  · rw [eqf_w 17 i v 6 (by decide)]; exact s1
  · rw [eqf_w 17 i v 12 (by decide), eqf_w 17 i v 9 (by decide), eqf_w 17 i v 13 (by decide), eqf_w 17 i v 14 (by decide)]; exact s2
  · rw [eqf_w 17 i v 14 (by decide), eqf_w 17 i v 13 (by decide)]; exact s3
  · have h' : ¬ u.2 17 e = 3 := by
      rw [rdA] at h
      by_cases z : e = i.toNatClampNeg
      · rw [z]; exact h3
      · rw [if_neg (fun y => z y.2)] at h; exact h
    rw [eqf_w 17 i v 19 (by decide), eqf_w 17 i v 13 (by decide), eqf_w 17 i v 14 (by decide), eqf_w 17 i v 18 (by decide), eqf_w 17 i v 8 (by decide)]
    exact s4 e he h'
theorem RA_watch (R : RA u w) (i rd a b : Int32) (hab : ¬ a.toInt = b.toInt) : RA (g_sA (g_sA (g_sA u 20 i rd) 21 i (if b < a then b else a)) 22 i (if a < b then b else a)) (g_sA (g_sA (g_sA w 17 i rd) 18 i a) 19 i b) := by
  obtain ⟨r1, r2, r3, r4, r5⟩ := R
  refine ⟨r1, r2, fun k' hk' => ?_, fun c hc => ?_, fun e he => ?_⟩
  · rw [eqf_w 22 _ _ k' (by omega), eqf_w 21 _ _ k' (by omega), eqf_w 20 _ _ k' (by omega), eqf_w 19 _ _ k' (by omega), eqf_w 18 _ _ k' (by omega), eqf_w 17 _ _ k' (by omega)]; exact r3 k' hk'
  · obtain ⟨q7, q8, q9, q10, q12, q13, q14, q15, q16⟩ := r4 c hc
    refine ⟨?_, ?_, ?_, ?_, ?_, ?_, ?_, ?_, ?_⟩
    · rw [eqf_w 22 _ _ 7 (by decide), eqf_w 21 _ _ 7 (by decide), eqf_w 20 _ _ 7 (by decide), eqf_w 19 _ _ 7 (by decide), eqf_w 18 _ _ 7 (by decide), eqf_w 17 _ _ 7 (by decide)]; exact q7
    · rw [eqf_w 22 _ _ 8 (by decide), eqf_w 21 _ _ 8 (by decide), eqf_w 20 _ _ 8 (by decide), eqf_w 19 _ _ 8 (by decide), eqf_w 18 _ _ 8 (by decide), eqf_w 17 _ _ 8 (by decide)]; exact q8
    · rw [eqf_w 22 _ _ 9 (by decide), eqf_w 21 _ _ 9 (by decide), eqf_w 20 _ _ 9 (by decide), eqf_w 19 _ _ 9 (by decide), eqf_w 18 _ _ 9 (by decide), eqf_w 17 _ _ 9 (by decide)]; exact q9
    · rw [eqf_w 22 _ _ 10 (by decide), eqf_w 21 _ _ 10 (by decide), eqf_w 20 _ _ 10 (by decide), eqf_w 19 _ _ 10 (by decide), eqf_w 18 _ _ 10 (by decide), eqf_w 17 _ _ 10 (by decide)]; exact q10
    · rw [eqf_w 22 _ _ 12 (by decide), eqf_w 21 _ _ 12 (by decide), eqf_w 20 _ _ 12 (by decide), eqf_w 19 _ _ 11 (by decide), eqf_w 18 _ _ 11 (by decide), eqf_w 17 _ _ 11 (by decide)]; exact q12
    · rw [eqf_w 22 _ _ 13 (by decide), eqf_w 21 _ _ 13 (by decide), eqf_w 20 _ _ 13 (by decide), eqf_w 19 _ _ 12 (by decide), eqf_w 18 _ _ 12 (by decide), eqf_w 17 _ _ 12 (by decide)]; exact q13
    · rw [eqf_w 22 _ _ 14 (by decide), eqf_w 21 _ _ 14 (by decide), eqf_w 20 _ _ 14 (by decide), eqf_w 19 _ _ 13 (by decide), eqf_w 18 _ _ 13 (by decide), eqf_w 17 _ _ 13 (by decide)]; exact q14
    · rw [eqf_w 22 _ _ 15 (by decide), eqf_w 21 _ _ 15 (by decide), eqf_w 20 _ _ 15 (by decide), eqf_w 19 _ _ 15 (by decide), eqf_w 18 _ _ 15 (by decide), eqf_w 17 _ _ 15 (by decide)]; exact q15
    · rw [eqf_w 22 _ _ 16 (by decide), eqf_w 21 _ _ 16 (by decide), eqf_w 20 _ _ 16 (by decide), eqf_w 19 _ _ 14 (by decide), eqf_w 18 _ _ 14 (by decide), eqf_w 17 _ _ 14 (by decide)]; exact q16
  · obtain ⟨q17, qx⟩ := r5 e he
    rw [eqf_w 22 _ _ 17 (by decide), eqf_w 21 _ _ 17 (by decide), eqf_w 20 _ _ 17 (by decide), eqf_w 19 _ _ 16 (by decide), eqf_w 18 _ _ 16 (by decide), eqf_w 17 _ _ 16 (by decide)]
    refine ⟨q17, fun h => ?_⟩
    have k20 : (g_sA (g_sA (g_sA u 20 i rd) 21 i (if b < a then b else a)) 22 i (if a < b then b else a)).2 20 e = if e = i.toNatClampNeg then rd else u.2 20 e := by rw [eqf_w 22 _ _ 20 (by decide), eqf_w 21 _ _ 20 (by decide), rdk]
    have k21 : (g_sA (g_sA (g_sA u 20 i rd) 21 i (if b < a then b else a)) 22 i (if a < b then b else a)).2 21 e = if e = i.toNatClampNeg then (if b < a then b else a) else u.2 21 e := by rw [eqf_w 22 _ _ 21 (by decide), rdk, eqf_w 20 _ _ 21 (by decide)]
    have k22 : (g_sA (g_sA (g_sA u 20 i rd) 21 i (if b < a then b else a)) 22 i (if a < b then b else a)).2 22 e = if e = i.toNatClampNeg then (if a < b then b else a) else u.2 22 e := by rw [rdk, eqf_w 21 _ _ 22 (by decide), eqf_w 20 _ _ 22 (by decide)]
    have m17 : (g_sA (g_sA (g_sA w 17 i rd) 18 i a) 19 i b).2 17 e = if e = i.toNatClampNeg then rd else w.2 17 e := by rw [eqf_w 19 _ _ 17 (by decide), eqf_w 18 _ _ 17 (by decide), rdk]
    have m18 : (g_sA (g_sA (g_sA w 17 i rd) 18 i a) 19 i b).2 18 e = if e = i.toNatClampNeg then a else w.2 18 e := by rw [eqf_w 19 _ _ 18 (by decide), rdk, eqf_w 17 _ _ 18 (by decide)]
    have m19 : (g_sA (g_sA (g_sA w 17 i rd) 18 i a) 19 i b).2 19 e = if e = i.toNatClampNeg then b else w.2 19 e := by rw [rdk, eqf_w 18 _ _ 19 (by decide), eqf_w 17 _ _ 19 (by decide)]
    rw [k20, k21, k22, m17, m18, m19]
    by_cases z : e = i.toNatClampNeg
    · simp only [if_pos z]
      refine ⟨trivial, fun _ => ?_⟩
      by_cases q : a < b
      · have q' := Int32.lt_iff_toInt_lt.mp q
        rw [if_neg (show ¬ b < a from fun y => by have := Int32.lt_iff_toInt_lt.mp y; omega), if_pos q]
        exact Or.inl ⟨rfl, rfl, q'⟩
      · have q' := mt Int32.lt_iff_toInt_lt.mpr q
        rw [if_pos (show b < a from Int32.lt_iff_toInt_lt.mpr (by omega)), if_neg q]
        exact Or.inr ⟨rfl, rfl, by omega⟩
    · simp only [if_neg z]
      exact qx h
end SIM
end
section
def latV (u : g_S) : Int32 := if u.1 0 = 0 then 0 else u.2 12 ((u.1 0) - (1 : Int32)).toNatClampNeg
def latM (w : g_S) : Int32 := if w.1 1 = 0 then 0 else w.2 11 ((w.1 1) - (1 : Int32)).toNatClampNeg
section CLL
variable {g : Nat → Int32} {u w : g_S}
theorem lat_c (I : IC g u) : fcA_latestTime u = some (latV u) := by
  have z := IC_s I
  have z0 : (0 : Int32).toInt = 0 := by decide
  unfold fcA_latestTime latV
  by_cases h : u.1 0 = 0
  · rw [if_neg (fun q => q h), if_pos h]
  · have h' : ¬ (u.1 0).toInt = 0 := fun q => h (Int32.toInt_inj.mp (by omega))
    have t : ((u.1 0) - (1 : Int32)).toInt = (u.1 0).toInt - 1 := oi_sub rfl (by decide) (by omega) (by omega)
    rw [if_pos h, if_neg h, ck_in (vp_I (by omega) (by omega))]
theorem okl_fcA_latestTime (I : IC g u) : okk (fcA_latestTime u) (fun r => (r.toInt = (latV u).toInt)) := ⟨_, lat_c I, rfl⟩
theorem lat_eq (R : RA u w) (I : IC g u) : latV u = latM w := by
  have z := IC_s I
  unfold latV latM
  rw [← RA_z R]
  by_cases h : u.1 0 = 0
  · rw [if_pos h, if_pos h]
  · have h' : ¬ (u.1 0).toInt = 0 := fun q => h (Int32.toInt_inj.mp (by rw [show (0 : Int32).toInt = 0 by decide]; omega))
    have t : ((u.1 0) - (1 : Int32)).toInt = (u.1 0).toInt - 1 := oi_sub rfl (by decide) (by omega) (by omega)
    have c : ((((u.1 0) - (1 : Int32)).toNatClampNeg : Nat) : Int) = ((u.1 0) - (1 : Int32)).toInt := cl_I (by omega)
    rw [if_neg h, if_neg h]
    exact (R.2.2.2.1 _ (by omega)).2.2.2.2.1
theorem lat_0 (S : RS u) (I : IC g u) : 0 ≤ (latV u).toInt := by
  have z := IC_s I
  unfold latV
  by_cases h : u.1 0 = 0
  · rw [if_pos h]; decide
  · have h' : ¬ (u.1 0).toInt = 0 := fun q => h (Int32.toInt_inj.mp (by rw [show (0 : Int32).toInt = 0 by decide]; omega))
    have t : ((u.1 0) - (1 : Int32)).toInt = (u.1 0).toInt - 1 := oi_sub rfl (by decide) (by omega) (by omega)
    have c : ((((u.1 0) - (1 : Int32)).toNatClampNeg : Nat) : Int) = ((u.1 0) - (1 : Int32)).toInt := cl_I (by omega)
    rw [if_neg h]
    exact (S.2.1 _ (by omega)).1
theorem okl_fm_isRange (J : IM g w) {p1 p2 p3 : Int32} : okk (fm_isRange w p1 p2 p3) (fun r => (r.toInt = 1 ∧ (0 ≤ p1.toInt ∧ p1.toInt ≤ 999) ∧ (-1 ≤ p2.toInt ∧ p2.toInt ≤ 99999999) ∧ (latM w).toInt ≤ p3.toInt) ∨ (r.toInt = 0 ∧ ¬ ((0 ≤ p1.toInt ∧ p1.toInt ≤ 999) ∧ (-1 ≤ p2.toInt ∧ p2.toInt ≤ 99999999) ∧ (latM w).toInt ≤ p3.toInt))) := by
  have z := IM_s J
  have z0 : (0 : Int32).toInt = 0 := by decide
  have z1 : (1 : Int32).toInt = 1 := by decide
  have zm : (-1 : Int32).toInt = -1 := by decide
  have z9 : (999 : Int32).toInt = 999 := by decide
  have zp : (99999999 : Int32).toInt = 99999999 := by decide
  unfold fm_isRange
  refine okk_in (fun b => ?_) (fun b => ?_)
  · refine okk_f (by decide) ?_
    refine okk_in (fun b2 => ?_) (fun b2 => ?_)
    · refine okk_f (by decide) ?_
      refine okk_ne (fun c cI => ?_) (fun c cI => ?_)
      · have t : ((w.1 1) - (1 : Int32)).toInt = (w.1 1).toInt - 1 := oi_sub rfl (by decide) (by omega) (by omega)
        have l : latM w = w.2 11 ((w.1 1) - (1 : Int32)).toNatClampNeg := by unfold latM; rw [if_neg c]
        refine okk_ck (vp_I (by omega) (by omega)) ?_
        rw [l]
        refine okk_lt (fun d dI => ?_) (fun d dI => ?_)
        · exact okk_some (Or.inr ⟨z0, by omega⟩)
        · exact okk_some (Or.inl ⟨z1, by omega, by omega, by omega⟩)
      · have l : latM w = 0 := by unfold latM; rw [if_pos c]
        rw [l]
        refine okk_lt (fun d dI => ?_) (fun d dI => ?_)
        · exact okk_some (Or.inr ⟨z0, by omega⟩)
        · exact okk_some (Or.inl ⟨z1, by omega, by omega, by omega⟩)
    · refine okk_t (by decide) ?_
      exact okk_some (Or.inr ⟨z0, by omega⟩)
  · refine okk_t (by decide) ?_
    exact okk_some (Or.inr ⟨z0, by omega⟩)
def dS (u : g_S) (i p1 p2 p3 p4 p5 p6 : Int32) : g_S := g_sA (g_sA (g_sA (g_sA (g_sA (g_sA (g_sA (g_sA (g_sA u 7 i p1) 8 i p2) 9 i p3) 10 i p4) 11 i p5) 12 i p6) 14 i (-1 : Int32)) 15 i (0 : Int32)) 16 i (0 : Int32)
theorem draft_e (I : IC g u) (p1 p2 p3 p4 p5 p6 : Int32) : fcA_draft u p1 p2 p3 p4 p5 p6 = some (u.1 0, dS u (u.1 0) p1 p2 p3 p4 p5 p6) := by
  have z := IC_s I
  have hv : vp_in (u.1 0) 121 := vp_I (by omega) (by omega)
  unfold fcA_draft
  rw [ck_in hv]
  show ck (u.1 0) 121 _ = _
  rw [ck_in hv]
  show ck (u.1 0) 121 _ = _
  rw [ck_in hv]
  show ck (u.1 0) 121 _ = _
  rw [ck_in hv]
  show ck (u.1 0) 121 _ = _
  rw [ck_in hv]
  show ck (u.1 0) 121 _ = _
  rw [ck_in hv]
  show ck (u.1 0) 121 _ = _
  rw [ck_in hv]
  show ck (u.1 0) 121 _ = _
  rw [ck_in hv]
  show ck (u.1 0) 121 _ = _
  rw [ck_in hv]
  rfl
def SB (u u' : g_S) : Prop := u'.1 = u.1 ∧ (∀ k, (k < 7 ∨ 17 ≤ k) → u'.2 k = u.2 k) ∧ ∀ k c : Nat, (c : Int) < (u.1 0).toInt → u'.2 k c = u.2 k c
theorem SB_rf : SB u u := ⟨rfl, fun _ _ => rfl, fun _ _ _ => rfl⟩
theorem SB_w {u' : g_S} (h : SB u u') (k : Nat) (hk : 7 ≤ k ∧ k < 17) (i v : Int32) (hi : (u.1 0).toInt ≤ (i.toNatClampNeg : Int)) : SB u (g_sA u' k i v) := by
  obtain ⟨h1, h2, h3⟩ := h
  refine ⟨h1, fun k' hk' => ?_, fun k' c hc => ?_⟩
  · rw [eqf_w k i v k' (by omega)]; exact h2 k' hk'
  · rw [rdA, if_neg (fun y => by have := y.2; omega)]; exact h3 k' c hc
theorem RA_sb {u' : g_S} (h : SB u u') (R : RA u w) : RA u' w := by
  obtain ⟨h1, h2, h3⟩ := h
  obtain ⟨r1, r2, r3, r4, r5⟩ := R
  refine ⟨by rw [h1]; exact r1, by rw [h1]; exact r2, fun k hk => by rw [h2 k (Or.inl hk)]; exact r3 k hk, fun c hc => ?_, fun e he => ?_⟩
  · rw [h1] at hc
    rw [h3 7 c hc, h3 8 c hc, h3 9 c hc, h3 10 c hc, h3 12 c hc, h3 13 c hc, h3 14 c hc, h3 15 c hc, h3 16 c hc]
    exact r4 c hc
  · rw [h1] at he
    rw [h2 17 (by omega), h2 20 (by omega), h2 21 (by omega), h2 22 (by omega)]
    exact r5 e he
theorem RS_sb {u' : g_S} (h : SB u u') (S : RS u) : RS u' := by
  obtain ⟨h1, h2, h3⟩ := h
  obtain ⟨s1, s2, s3, s4⟩ := S
  refine ⟨by rw [h2 6 (by omega)]; exact s1, fun c hc => ?_, fun c hc hr => ?_, fun e he h => ?_⟩
  · rw [h1] at hc ⊢
    rw [h3 12 c hc, h3 9 c hc, h3 13 c hc, h3 14 c hc]
    exact s2 c hc
  · rw [h1] at hc
    rw [h3 14 c hc] at hr ⊢
    have hc2 : ((u.2 14 c).toNatClampNeg : Int) = (u.2 14 c).toInt := cl_I hr
    have := (s2 c hc).2.2.2.2
    rw [h3 13 _ (by omega), h3 13 c hc]
    exact s3 c hc hr
  · rw [h1] at he
    rw [h2 17 (by omega)] at h
    obtain ⟨a1, a2, a3, a4, a5, a6⟩ := s4 e he h
    have hc2 : ((u.2 19 e).toNatClampNeg : Int) = (u.2 19 e).toInt := cl_I a1
    rw [h2 19 (by omega), h2 18 (by omega), h1, h3 13 _ (by omega), h3 14 _ (by omega), h3 8 _ (by omega)]
    refine ⟨a1, a2, a3, a4, a5, fun c hc => ?_⟩
    rw [h3 13 c hc, h3 14 c hc]
    exact a6 c hc
theorem SB_d (I : IC g u) (p1 p2 p3 p4 p5 p6 : Int32) : SB u (dS u (u.1 0) p1 p2 p3 p4 p5 p6) := by
  have z := IC_s I
  have hc : ((u.1 0).toNatClampNeg : Int) = (u.1 0).toInt := cl_I (by omega)
  unfold dS
  exact SB_w (SB_w (SB_w (SB_w (SB_w (SB_w (SB_w (SB_w (SB_w SB_rf 7 (by decide) _ _ (by omega)) 8 (by decide) _ _ (by omega)) 9 (by decide) _ _ (by omega)) 10 (by decide) _ _ (by omega)) 11 (by decide) _ _ (by omega)) 12 (by decide) _ _ (by omega)) 14 (by decide) _ _ (by omega)) 15 (by decide) _ _ (by omega)) 16 (by decide) _ _ (by omega)
theorem dS_r (u : g_S) (i p1 p2 p3 p4 p5 p6 : Int32) : (dS u i p1 p2 p3 p4 p5 p6).2 7 i.toNatClampNeg = p1 ∧ (dS u i p1 p2 p3 p4 p5 p6).2 8 i.toNatClampNeg = p2 ∧ (dS u i p1 p2 p3 p4 p5 p6).2 9 i.toNatClampNeg = p3 ∧ (dS u i p1 p2 p3 p4 p5 p6).2 10 i.toNatClampNeg = p4 ∧ (dS u i p1 p2 p3 p4 p5 p6).2 11 i.toNatClampNeg = p5 ∧ (dS u i p1 p2 p3 p4 p5 p6).2 12 i.toNatClampNeg = p6 ∧ (dS u i p1 p2 p3 p4 p5 p6).2 14 i.toNatClampNeg = -1 ∧ (dS u i p1 p2 p3 p4 p5 p6).2 15 i.toNatClampNeg = 0 ∧ (dS u i p1 p2 p3 p4 p5 p6).2 16 i.toNatClampNeg = 0 := by
  unfold dS
  refine ⟨?_, ?_, ?_, ?_, ?_, ?_, ?_, ?_, ?_⟩
  · rw [eq_w 16 _ _ 7 _ (by decide), eq_w 15 _ _ 7 _ (by decide), eq_w 14 _ _ 7 _ (by decide), eq_w 12 _ _ 7 _ (by decide), eq_w 11 _ _ 7 _ (by decide), eq_w 10 _ _ 7 _ (by decide), eq_w 9 _ _ 7 _ (by decide), eq_w 8 _ _ 7 _ (by decide), rdA, if_pos ⟨rfl, rfl⟩]
  · rw [eq_w 16 _ _ 8 _ (by decide), eq_w 15 _ _ 8 _ (by decide), eq_w 14 _ _ 8 _ (by decide), eq_w 12 _ _ 8 _ (by decide), eq_w 11 _ _ 8 _ (by decide), eq_w 10 _ _ 8 _ (by decide), eq_w 9 _ _ 8 _ (by decide), rdA, if_pos ⟨rfl, rfl⟩]
  · rw [eq_w 16 _ _ 9 _ (by decide), eq_w 15 _ _ 9 _ (by decide), eq_w 14 _ _ 9 _ (by decide), eq_w 12 _ _ 9 _ (by decide), eq_w 11 _ _ 9 _ (by decide), eq_w 10 _ _ 9 _ (by decide), rdA, if_pos ⟨rfl, rfl⟩]
  · rw [eq_w 16 _ _ 10 _ (by decide), eq_w 15 _ _ 10 _ (by decide), eq_w 14 _ _ 10 _ (by decide), eq_w 12 _ _ 10 _ (by decide), eq_w 11 _ _ 10 _ (by decide), rdA, if_pos ⟨rfl, rfl⟩]
  · rw [eq_w 16 _ _ 11 _ (by decide), eq_w 15 _ _ 11 _ (by decide), eq_w 14 _ _ 11 _ (by decide), eq_w 12 _ _ 11 _ (by decide), rdA, if_pos ⟨rfl, rfl⟩]
  · rw [eq_w 16 _ _ 12 _ (by decide), eq_w 15 _ _ 12 _ (by decide), eq_w 14 _ _ 12 _ (by decide), rdA, if_pos ⟨rfl, rfl⟩]
  · rw [eq_w 16 _ _ 14 _ (by decide), eq_w 15 _ _ 14 _ (by decide), rdA, if_pos ⟨rfl, rfl⟩]
  · rw [eq_w 16 _ _ 15 _ (by decide), rdA, if_pos ⟨rfl, rfl⟩]
  · rw [rdA, if_pos ⟨rfl, rfl⟩]
end CLL
end
section
section RDS
variable {g : Nat → Int32} {u w : g_S}
theorem isb1 {a b : Int32} (h : 0 ≤ a.toInt ∧ a.toInt < b.toInt) : fcJ_isBelow a b = some (1 : Int32) := by
  have z0 : (0 : Int32).toInt = 0 := by decide
  unfold fcJ_isBelow
  rw [if_neg (fun q => by have := Int32.lt_iff_toInt_lt.mp q; omega), if_neg (fun q => by have := Int32.le_iff_toInt_le.mp q; omega)]
theorem isb0 {a b : Int32} (h : ¬ (0 ≤ a.toInt ∧ a.toInt < b.toInt)) : fcJ_isBelow a b = some (0 : Int32) := by
  have z0 : (0 : Int32).toInt = 0 := by decide
  unfold fcJ_isBelow
  by_cases c : a < 0
  · rw [if_pos c]
  · have c1 := mt Int32.lt_iff_toInt_lt.mpr c
    rw [if_neg c, if_pos (Int32.le_iff_toInt_le.mpr (by omega))]
theorem isc1 (J : IM g w) {p : Int32} (h : 0 ≤ p.toInt ∧ p.toInt < (w.1 1).toInt) : fm_isCall w p = some (1 : Int32) := by
  have z := IM_s J
  have t : ((w.1 1) - (1 : Int32)).toInt = (w.1 1).toInt - 1 := oi_sub rfl (by decide) (by omega) (by omega)
  have z0 : (0 : Int32).toInt = 0 := by decide
  unfold fm_isCall
  rw [fm_in_1 (by omega)]; rfl
theorem isc0 (J : IM g w) {p : Int32} (h : ¬ (0 ≤ p.toInt ∧ p.toInt < (w.1 1).toInt)) : fm_isCall w p = some (0 : Int32) := by
  have z := IM_s J
  have t : ((w.1 1) - (1 : Int32)).toInt = (w.1 1).toInt - 1 := oi_sub rfl (by decide) (by omega) (by omega)
  have z0 : (0 : Int32).toInt = 0 := by decide
  unfold fm_isCall
  rw [fm_in_0 (by omega)]; rfl
theorem ise1 (J : IM g w) {p : Int32} (h : 0 ≤ p.toInt ∧ p.toInt < (w.1 2).toInt) : fm_isEvent w p = some (1 : Int32) := by
  have z := IM_s J
  have t : ((w.1 2) - (1 : Int32)).toInt = (w.1 2).toInt - 1 := oi_sub rfl (by decide) (by omega) (by omega)
  have z0 : (0 : Int32).toInt = 0 := by decide
  unfold fm_isEvent
  rw [fm_in_1 (by omega)]; rfl
theorem ise0 (J : IM g w) {p : Int32} (h : ¬ (0 ≤ p.toInt ∧ p.toInt < (w.1 2).toInt)) : fm_isEvent w p = some (0 : Int32) := by
  have z := IM_s J
  have t : ((w.1 2) - (1 : Int32)).toInt = (w.1 2).toInt - 1 := oi_sub rfl (by decide) (by omega) (by omega)
  have z0 : (0 : Int32).toInt = 0 := by decide
  unfold fm_isEvent
  rw [fm_in_0 (by omega)]; rfl
theorem nat_of {p : Int32} {n : Int} (h : 0 ≤ p.toInt ∧ p.toInt < n) : ∃ a : Nat, p = nI a ∧ (a : Int) < n ∧ a < 2 ^ 31 := by
  obtain ⟨a, h1, h2⟩ := nI_of (x := p) (fun q => by have := Int32.lt_iff_toInt_lt.mp q; rw [show (0 : Int32).toInt = 0 by decide] at this; omega)
  refine ⟨a, h2, ?_, h1⟩
  rw [h2, nI_toInt h1] at h
  exact h.2
theorem two_c1 {p1 p2 : Int32} (h1 : 0 ≤ p1.toInt ∧ p1.toInt < (u.1 0).toInt) (h2 : 0 ≤ p2.toInt ∧ p2.toInt < (u.1 0).toInt) (h3 : ¬ p1 = p2) : fcJ_needTwoCalls u p1 p2 = some 0 := by
  unfold fcJ_needTwoCalls
  rw [bi_s (isb1 h1), if_neg (by decide), bi_s (isb1 h2), if_neg (by decide), if_neg h3]; rfl
theorem two_c0 {p1 p2 : Int32} (h : ¬ ((0 ≤ p1.toInt ∧ p1.toInt < (u.1 0).toInt) ∧ (0 ≤ p2.toInt ∧ p2.toInt < (u.1 0).toInt) ∧ ¬ p1 = p2)) : fcJ_needTwoCalls u p1 p2 = some 1 := by
  unfold fcJ_needTwoCalls
  by_cases h1 : 0 ≤ p1.toInt ∧ p1.toInt < (u.1 0).toInt
  · rw [bi_s (isb1 h1), if_neg (by decide)]
    by_cases h2 : 0 ≤ p2.toInt ∧ p2.toInt < (u.1 0).toInt
    · rw [bi_s (isb1 h2), if_neg (by decide)]
      by_cases h3 : p1 = p2
      · rw [if_pos h3]; rfl
      · exact absurd ⟨h1, h2, h3⟩ h
    · rw [bi_s (isb0 h2), if_pos rfl]; rfl
  · rw [bi_s (isb0 h1), if_pos rfl]; rfl
theorem kd_of (I : IC g u) (c : Nat) : ∃ k : Nat, k < 8 ∧ u.2 8 c = nI k := by
  have r := IC_r8 I c
  obtain ⟨k, h1, h2, -⟩ := nat_of (p := u.2 8 c) (n := 8) (by omega)
  exact ⟨k, by omega, h1⟩
def shR (E B : Int32) : Option (Nat × Int32) := if E = 0 then some (5, (0 : Int32)) else some (0, ((1000 : Int32) * B) / E)
theorem share_c (I : IC g u) {a b m k : Nat} (ha : (a : Int) < (u.1 0).toInt) (hb : (b : Int) < (u.1 0).toInt) (hab : ¬ a = b) (hm : m = if a < b then b else a) (hk8 : k < 8) (hk : u.2 8 m = nI k) : fcJ_share u (nI a) (nI b) = shR (wS (u.2 4) k (u.2 10 a ||| u.2 10 b)) (wS (u.2 4) k (u.2 10 a &&& u.2 10 b)) := by
  have z := IC_s I
  have ca : (nI a).toInt = a := nI_toInt (by omega)
  have cb : (nI b).toInt = b := nI_toInt (by omega)
  have hmx : (if nI a < nI b then nI b else nI a) = nI m := by
    rw [hm]
    by_cases q : a < b
    · rw [if_pos ((nI_ltI (by omega) (by omega)).mpr q), if_pos q]
    · rw [if_neg (fun y => q ((nI_ltI (by omega) (by omega)).mp y)), if_neg q]
  have hm121 : m < 121 := by rw [hm]; split <;> omega
  unfold fcJ_share shR
  rw [bi_s (two_c1 (by omega) (by omega) (fun q => hab ((nI_eq (by omega) (by omega)).mp q))), if_pos rfl, hmx, ck_nI hm121 (by decide), n31 hm121, hk]
  show (ck (nI a) 121 <| ck (nI b) 121 <| _) = _
  rw [ck_nI (n := 121) (by omega) (by decide), ck_nI (n := 121) (by omega) (by decide), n31 (by omega), n31 (by omega), bi_s (weigh_e hk8 _)]
  by_cases q : wS (u.2 4) k (u.2 10 a ||| u.2 10 b) = 0
  · rw [if_neg (fun y => y q), if_pos q]
  · rw [if_pos q, if_neg q, ck_nI (n := 121) (by omega) (by decide), ck_nI (n := 121) (by omega) (by decide), bi_s (weigh_e hk8 _), if_neg q]
def shM (w : g_S) (E B : Int32) : Option (Int32 × g_S) := if E = 0 then some ((0 : Int32), g_sI w 0 2) else some (((1000 : Int32) * B) / E, g_sI w 0 0)
theorem share_m (J : IM g w) {a b m k : Nat} (ha : (a : Int) < (w.1 1).toInt) (hb : (b : Int) < (w.1 1).toInt) (hab : ¬ a = b) (hm : m = if a < b then b else a) (hk8 : k < 8) (hk : w.2 8 m = nI k) : fm_share w (nI a) (nI b) = shM w (wS (w.2 4) k (w.2 10 a ||| w.2 10 b)) (wS (w.2 4) k (w.2 10 a &&& w.2 10 b)) := by
  have z := IM_s J
  have ca : (nI a).toInt = a := nI_toInt (by omega)
  have cb : (nI b).toInt = b := nI_toInt (by omega)
  have n1 : (nI a).toNatClampNeg = a := n31 (by omega)
  have n2 : (nI b).toNatClampNeg = b := n31 (by omega)
  have h101 : ∀ y0 : Int32, y0 = wS (w.2 4) k (w.2 10 a ||| w.2 10 b) → fm_share_79 w (nI a) (nI b) (1 : Int32) (nI k) y0 = shM w (wS (w.2 4) k (w.2 10 a ||| w.2 10 b)) (wS (w.2 4) k (w.2 10 a &&& w.2 10 b)) := by
    intro y0 hy
    unfold fm_share_79 shM
    rw [if_pos (by decide)]
    by_cases q : y0 = 0
    · rw [if_neg (fun y => y q), if_pos (by rw [← hy]; exact q)]
      unfold fm_share_101
      rw [bi_s (fm_thr_2 w 0)]
      dsimp only
      rw [if_neg (by decide)]
    · rw [if_pos q, if_neg (by rw [← hy]; exact q)]
      unfold fm_share_101
      rw [bi_s (fm_thr_0 w)]
      dsimp only
      rw [if_pos rfl, ck_nI (n := 120) (by omega) (by decide), ck_nI (n := 120) (by omega) (by decide), n1, n2]
      have e : fm_sum (g_sI w 0 0) ((g_sI w 0 0).2 10 a &&& (g_sI w 0 0).2 10 b) (nI k) = some (wS (w.2 4) k (w.2 10 a &&& w.2 10 b)) := sum_e (w := g_sI w 0 0) hk8 _
      rw [bi_s e, if_neg q, hy]
  unfold fm_share
  rw [bi_s (isc1 J (by omega)), if_neg (by decide), bi_s (isc1 J (by omega)), if_neg (by decide), if_neg (fun q => hab ((nI_eq (by omega) (by omega)).mp q))]
  unfold fm_share_26
  rw [if_neg (by decide), n1, n2]
  have h50 : fm_share_50 w (nI a) (nI b) (1 : Int32) (nI k) = shM w (wS (w.2 4) k (w.2 10 a ||| w.2 10 b)) (wS (w.2 4) k (w.2 10 a &&& w.2 10 b)) := by
    unfold fm_share_50
    rw [if_neg (by decide), ck_nI (n := 120) (by omega) (by decide), ck_nI (n := 120) (by omega) (by decide), n1, n2, bi_s (sum_e hk8 _)]
    exact h101 _ rfl
  by_cases q : a < b
  · rw [if_pos (nI_le (by omega) (by omega)), ck_nI (n := 120) (by omega) (by decide)]
    rw [if_pos q] at hm
    rw [show w.2 8 b = nI k by rw [← hm]; exact hk]; exact h50
  · rw [if_neg (fun y => q (by have := (nI_leI (by omega) (by omega)).mp y; omega)), ck_nI (n := 120) (by omega) (by decide)]
    rw [if_neg q] at hm
    rw [show w.2 8 a = nI k by rw [← hm]; exact hk]; exact h50
theorem share_m0 (J : IM g w) {p1 p2 : Int32} (h : ¬ ((0 ≤ p1.toInt ∧ p1.toInt < (w.1 1).toInt) ∧ (0 ≤ p2.toInt ∧ p2.toInt < (w.1 1).toInt) ∧ ¬ p1 = p2)) : fm_share w p1 p2 = some ((0 : Int32), g_sI w 0 1) := by
  have h26 : fm_share_26 w p1 p2 (0 : Int32) = some ((0 : Int32), g_sI w 0 1) := by
    unfold fm_share_26
    rw [if_pos rfl]
    unfold fm_share_50
    rw [if_pos rfl]
    unfold fm_share_79
    rw [if_neg (fun q => q rfl), if_neg (fun q => q rfl)]
    unfold fm_share_101
    rw [bi_s (fm_thr_1 w 1 0)]
    dsimp only
    rw [if_neg (by decide)]
  unfold fm_share
  by_cases h1 : 0 ≤ p1.toInt ∧ p1.toInt < (w.1 1).toInt
  · rw [bi_s (isc1 J h1), if_neg (by decide)]
    by_cases h2 : 0 ≤ p2.toInt ∧ p2.toInt < (w.1 1).toInt
    · rw [bi_s (isc1 J h2), if_neg (by decide)]
      by_cases h3 : p1 = p2
      · rw [if_pos h3]; exact h26
      · exact absurd ⟨h1, h2, h3⟩ h
    · rw [bi_s (isc0 J h2), if_pos rfl]; exact h26
  · rw [bi_s (isc0 J h1), if_pos rfl]; exact h26
end RDS
end
section
set_option maxHeartbeats 4000000 in
theorem okl_fcJ_rule {g : Nat → Int32} {u : g_S} (I : IC g u) {p1 : Int32} {p2 : Int32} {p3 : Int32} {p4 : Int32} {p5 : Int32} : okk (fcJ_rule u p1 p2 p3 p4 p5) (fun r => IC g r.2 ∧ ((r.1 = 1 ∧ ¬ (0 ≤ p1.toInt ∧ p1.toInt ≤ 7)) ∨ (r.1 = 2 ∧ (0 ≤ p1.toInt ∧ p1.toInt ≤ 7) ∧ ¬ (0 ≤ p2.toInt ∧ p2.toInt ≤ 20000 ∧ 0 ≤ p3.toInt ∧ p3.toInt ≤ 100000 ∧ 0 ≤ p4.toInt ∧ p4.toInt ≤ 100 ∧ 1 ≤ p5.toInt ∧ p5.toInt ≤ 100)) ∨ (r.1 = 0 ∧ (0 ≤ p1.toInt ∧ p1.toInt ≤ 7) ∧ (0 ≤ p2.toInt ∧ p2.toInt ≤ 20000 ∧ 0 ≤ p3.toInt ∧ p3.toInt ≤ 100000 ∧ 0 ≤ p4.toInt ∧ p4.toInt ≤ 100 ∧ 1 ≤ p5.toInt ∧ p5.toInt ≤ 100))) ∧ (r.1 = 0 → r.2 = g_sA (g_sA (g_sA (g_sA u 0 p1 p2) 1 p1 p3) 2 p1 p4) 3 p1 p5) ∧ (¬ r.1 = 0 → r.2 = u)) := by
  unfold fcJ_rule
  have z1_ := IC_s I
  try have t2_ : (8 : Int32).toInt = (8 : Int) := (by decide : (8 : Int32).toInt = 8)
  refine okk_isBelow (fun b3_ => ?_) (fun b3_ => ?_)
  · refine okk_bs (v := (0 : Nat)) (by decide) ?_
    refine okk_t (by decide) ?_
    try have t4_ : (20001 : Int32).toInt = (20001 : Int) := (by decide : (20001 : Int32).toInt = 20001)
    refine okk_isBelow (fun b5_ => ?_) (fun b5_ => ?_)
    · refine okk_bs (v := (0 : Nat)) (by decide) ?_
      refine okk_t (by decide) ?_
      try have t6_ : (100001 : Int32).toInt = (100001 : Int) := (by decide : (100001 : Int32).toInt = 100001)
      refine okk_isBelow (fun b7_ => ?_) (fun b7_ => ?_)
      · refine okk_bs (v := (0 : Nat)) (by decide) ?_
        refine okk_t (by decide) ?_
        try have t8_ : (101 : Int32).toInt = (101 : Int) := (by decide : (101 : Int32).toInt = 101)
        refine okk_isBelow (fun b9_ => ?_) (fun b9_ => ?_)
        · refine okk_bs (v := (0 : Nat)) (by decide) ?_
          refine okk_t (by decide) ?_
          try have t11_ : (1 : Int32).toInt = (1 : Int) := (by decide : (1 : Int32).toInt = 1)
          refine okk_lt (fun c10_ c10_I => ?_) (fun c10_ c10_I => ?_)
          · unfold fcJ_rule_56
            refine okk_bs (v := (2 : Nat)) (by decide) ?_
            refine okk_f (by decide) ?_
            exact okk_some (⟨I, (by show (2 = 1 ∧ ¬ (0 ≤ p1.toInt ∧ p1.toInt ≤ 7)) ∨ (2 = 2 ∧ (0 ≤ p1.toInt ∧ p1.toInt ≤ 7) ∧ ¬ (0 ≤ p2.toInt ∧ p2.toInt ≤ 20000 ∧ 0 ≤ p3.toInt ∧ p3.toInt ≤ 100000 ∧ 0 ≤ p4.toInt ∧ p4.toInt ≤ 100 ∧ 1 ≤ p5.toInt ∧ p5.toInt ≤ 100)) ∨ (2 = 0 ∧ (0 ≤ p1.toInt ∧ p1.toInt ≤ 7) ∧ (0 ≤ p2.toInt ∧ p2.toInt ≤ 20000 ∧ 0 ≤ p3.toInt ∧ p3.toInt ≤ 100000 ∧ 0 ≤ p4.toInt ∧ p4.toInt ≤ 100 ∧ 1 ≤ p5.toInt ∧ p5.toInt ≤ 100)); omega), (fun q => by simp at q), (fun _ => rfl)⟩)
          · try have t13_ : (100 : Int32).toInt = (100 : Int) := (by decide : (100 : Int32).toInt = 100)
            refine okk_lt (fun c12_ c12_I => ?_) (fun c12_ c12_I => ?_)
            · unfold fcJ_rule_56
              refine okk_bs (v := (2 : Nat)) (by decide) ?_
              refine okk_f (by decide) ?_
              exact okk_some (⟨I, (by show (2 = 1 ∧ ¬ (0 ≤ p1.toInt ∧ p1.toInt ≤ 7)) ∨ (2 = 2 ∧ (0 ≤ p1.toInt ∧ p1.toInt ≤ 7) ∧ ¬ (0 ≤ p2.toInt ∧ p2.toInt ≤ 20000 ∧ 0 ≤ p3.toInt ∧ p3.toInt ≤ 100000 ∧ 0 ≤ p4.toInt ∧ p4.toInt ≤ 100 ∧ 1 ≤ p5.toInt ∧ p5.toInt ≤ 100)) ∨ (2 = 0 ∧ (0 ≤ p1.toInt ∧ p1.toInt ≤ 7) ∧ (0 ≤ p2.toInt ∧ p2.toInt ≤ 20000 ∧ 0 ≤ p3.toInt ∧ p3.toInt ≤ 100000 ∧ 0 ≤ p4.toInt ∧ p4.toInt ≤ 100 ∧ 1 ≤ p5.toInt ∧ p5.toInt ≤ 100)); omega), (fun q => by simp at q), (fun _ => rfl)⟩)
            · unfold fcJ_rule_56
              refine okk_bs (v := (0 : Nat)) (by decide) ?_
              refine okk_t (by decide) ?_
              refine okk_ck (vp_I (by omega) (by omega)) ?_
              refine okk_gl (fun u1014_ eu1014_ => ?_)
              have Iu1014_ : IC g u1014_ := by rw [eu1014_]; exact IC_wx I 0 _ _ rfl rfl (by decide)
              have z15_ : (u1014_.1 0).toInt = (u.1 0).toInt := by rw [eu1014_]; rfl
              have z16_ : (u1014_.1 1).toInt = (u.1 1).toInt := by rw [eu1014_]; rfl
              refine okk_ck (vp_I (by omega) (by omega)) ?_
              refine okk_gl (fun u1117_ eu1117_ => ?_)
              have Iu1117_ : IC g u1117_ := by rw [eu1117_]; exact IC_wx Iu1014_ 1 _ _ rfl rfl (by decide)
              have z18_ : (u1117_.1 0).toInt = (u1014_.1 0).toInt := by rw [eu1117_]; rfl
              have z19_ : (u1117_.1 1).toInt = (u1014_.1 1).toInt := by rw [eu1117_]; rfl
              refine okk_ck (vp_I (by omega) (by omega)) ?_
              refine okk_gl (fun u1220_ eu1220_ => ?_)
              have Iu1220_ : IC g u1220_ := by rw [eu1220_]; exact IC_wx Iu1117_ 2 _ _ rfl rfl (by decide)
              have z21_ : (u1220_.1 0).toInt = (u1117_.1 0).toInt := by rw [eu1220_]; rfl
              have z22_ : (u1220_.1 1).toInt = (u1117_.1 1).toInt := by rw [eu1220_]; rfl
              refine okk_ck (vp_I (by omega) (by omega)) ?_
              refine okk_gl (fun u1323_ eu1323_ => ?_)
              have Iu1323_ : IC g u1323_ := by rw [eu1323_]; exact IC_wx Iu1220_ 3 _ _ rfl rfl (by decide)
              have z24_ : (u1323_.1 0).toInt = (u1220_.1 0).toInt := by rw [eu1323_]; rfl
              have z25_ : (u1323_.1 1).toInt = (u1220_.1 1).toInt := by rw [eu1323_]; rfl
              exact okk_some (⟨Iu1323_, (by show (0 = 1 ∧ ¬ (0 ≤ p1.toInt ∧ p1.toInt ≤ 7)) ∨ (0 = 2 ∧ (0 ≤ p1.toInt ∧ p1.toInt ≤ 7) ∧ ¬ (0 ≤ p2.toInt ∧ p2.toInt ≤ 20000 ∧ 0 ≤ p3.toInt ∧ p3.toInt ≤ 100000 ∧ 0 ≤ p4.toInt ∧ p4.toInt ≤ 100 ∧ 1 ≤ p5.toInt ∧ p5.toInt ≤ 100)) ∨ (0 = 0 ∧ (0 ≤ p1.toInt ∧ p1.toInt ≤ 7) ∧ (0 ≤ p2.toInt ∧ p2.toInt ≤ 20000 ∧ 0 ≤ p3.toInt ∧ p3.toInt ≤ 100000 ∧ 0 ≤ p4.toInt ∧ p4.toInt ≤ 100 ∧ 1 ≤ p5.toInt ∧ p5.toInt ≤ 100)); omega), (fun _ => by rw [eu1323_, eu1220_, eu1117_, eu1014_]), (fun q => absurd rfl q)⟩)
        · refine okk_bs (v := (2 : Nat)) (by decide) ?_
          refine okk_f (by decide) ?_
          exact okk_some (⟨I, (by show (2 = 1 ∧ ¬ (0 ≤ p1.toInt ∧ p1.toInt ≤ 7)) ∨ (2 = 2 ∧ (0 ≤ p1.toInt ∧ p1.toInt ≤ 7) ∧ ¬ (0 ≤ p2.toInt ∧ p2.toInt ≤ 20000 ∧ 0 ≤ p3.toInt ∧ p3.toInt ≤ 100000 ∧ 0 ≤ p4.toInt ∧ p4.toInt ≤ 100 ∧ 1 ≤ p5.toInt ∧ p5.toInt ≤ 100)) ∨ (2 = 0 ∧ (0 ≤ p1.toInt ∧ p1.toInt ≤ 7) ∧ (0 ≤ p2.toInt ∧ p2.toInt ≤ 20000 ∧ 0 ≤ p3.toInt ∧ p3.toInt ≤ 100000 ∧ 0 ≤ p4.toInt ∧ p4.toInt ≤ 100 ∧ 1 ≤ p5.toInt ∧ p5.toInt ≤ 100)); omega), (fun q => by simp at q), (fun _ => rfl)⟩)
      · refine okk_bs (v := (2 : Nat)) (by decide) ?_
        refine okk_f (by decide) ?_
        exact okk_some (⟨I, (by show (2 = 1 ∧ ¬ (0 ≤ p1.toInt ∧ p1.toInt ≤ 7)) ∨ (2 = 2 ∧ (0 ≤ p1.toInt ∧ p1.toInt ≤ 7) ∧ ¬ (0 ≤ p2.toInt ∧ p2.toInt ≤ 20000 ∧ 0 ≤ p3.toInt ∧ p3.toInt ≤ 100000 ∧ 0 ≤ p4.toInt ∧ p4.toInt ≤ 100 ∧ 1 ≤ p5.toInt ∧ p5.toInt ≤ 100)) ∨ (2 = 0 ∧ (0 ≤ p1.toInt ∧ p1.toInt ≤ 7) ∧ (0 ≤ p2.toInt ∧ p2.toInt ≤ 20000 ∧ 0 ≤ p3.toInt ∧ p3.toInt ≤ 100000 ∧ 0 ≤ p4.toInt ∧ p4.toInt ≤ 100 ∧ 1 ≤ p5.toInt ∧ p5.toInt ≤ 100)); omega), (fun q => by simp at q), (fun _ => rfl)⟩)
    · refine okk_bs (v := (2 : Nat)) (by decide) ?_
      refine okk_f (by decide) ?_
      exact okk_some (⟨I, (by show (2 = 1 ∧ ¬ (0 ≤ p1.toInt ∧ p1.toInt ≤ 7)) ∨ (2 = 2 ∧ (0 ≤ p1.toInt ∧ p1.toInt ≤ 7) ∧ ¬ (0 ≤ p2.toInt ∧ p2.toInt ≤ 20000 ∧ 0 ≤ p3.toInt ∧ p3.toInt ≤ 100000 ∧ 0 ≤ p4.toInt ∧ p4.toInt ≤ 100 ∧ 1 ≤ p5.toInt ∧ p5.toInt ≤ 100)) ∨ (2 = 0 ∧ (0 ≤ p1.toInt ∧ p1.toInt ≤ 7) ∧ (0 ≤ p2.toInt ∧ p2.toInt ≤ 20000 ∧ 0 ≤ p3.toInt ∧ p3.toInt ≤ 100000 ∧ 0 ≤ p4.toInt ∧ p4.toInt ≤ 100 ∧ 1 ≤ p5.toInt ∧ p5.toInt ≤ 100)); omega), (fun q => by simp at q), (fun _ => rfl)⟩)
  · refine okk_bs (v := (1 : Nat)) (by decide) ?_
    refine okk_f (by decide) ?_
    exact okk_some (⟨I, (by show (1 = 1 ∧ ¬ (0 ≤ p1.toInt ∧ p1.toInt ≤ 7)) ∨ (1 = 2 ∧ (0 ≤ p1.toInt ∧ p1.toInt ≤ 7) ∧ ¬ (0 ≤ p2.toInt ∧ p2.toInt ≤ 20000 ∧ 0 ≤ p3.toInt ∧ p3.toInt ≤ 100000 ∧ 0 ≤ p4.toInt ∧ p4.toInt ≤ 100 ∧ 1 ≤ p5.toInt ∧ p5.toInt ≤ 100)) ∨ (1 = 0 ∧ (0 ≤ p1.toInt ∧ p1.toInt ≤ 7) ∧ (0 ≤ p2.toInt ∧ p2.toInt ≤ 20000 ∧ 0 ≤ p3.toInt ∧ p3.toInt ≤ 100000 ∧ 0 ≤ p4.toInt ∧ p4.toInt ≤ 100 ∧ 1 ≤ p5.toInt ∧ p5.toInt ≤ 100)); omega), (fun q => by simp at q), (fun _ => rfl)⟩)
set_option maxHeartbeats 4000000 in
theorem okl_fm_rule {g : Nat → Int32} {u : g_S} (I : IM g u) {p1 : Int32} {p2 : Int32} {p3 : Int32} {p4 : Int32} {p5 : Int32} : okk (fm_rule u p1 p2 p3 p4 p5) (fun r => IM g r ∧ (((r.1 0).toInt = 1 ∧ ¬ (0 ≤ p1.toInt ∧ p1.toInt ≤ 7)) ∨ ((r.1 0).toInt = 2 ∧ (0 ≤ p1.toInt ∧ p1.toInt ≤ 7) ∧ ¬ (0 ≤ p2.toInt ∧ p2.toInt ≤ 20000 ∧ 0 ≤ p3.toInt ∧ p3.toInt ≤ 100000 ∧ 0 ≤ p4.toInt ∧ p4.toInt ≤ 100 ∧ 1 ≤ p5.toInt ∧ p5.toInt ≤ 100)) ∨ ((r.1 0).toInt = 0 ∧ (0 ≤ p1.toInt ∧ p1.toInt ≤ 7) ∧ (0 ≤ p2.toInt ∧ p2.toInt ≤ 20000 ∧ 0 ≤ p3.toInt ∧ p3.toInt ≤ 100000 ∧ 0 ≤ p4.toInt ∧ p4.toInt ≤ 100 ∧ 1 ≤ p5.toInt ∧ p5.toInt ≤ 100))) ∧ ((r.1 0).toInt = 0 → r = g_sA (g_sA (g_sA (g_sA (g_sI u 0 (0 : Int32)) 0 p1 p2) 1 p1 p3) 2 p1 p4) 3 p1 p5) ∧ (¬ (r.1 0).toInt = 0 → ∃ k : Int32, r = g_sI u 0 k)) := by
  unfold fm_rule
  have z1_ := IM_s I
  try have t2_ : (0 : Int32).toInt = (0 : Int) := (by decide : (0 : Int32).toInt = 0)
  try have t3_ : (20000 : Int32).toInt = (20000 : Int) := (by decide : (20000 : Int32).toInt = 20000)
  refine okk_in (fun b4_ => ?_) (fun b4_ => ?_)
  · refine okk_f (by decide) ?_
    try have t5_ : (100000 : Int32).toInt = (100000 : Int) := (by decide : (100000 : Int32).toInt = 100000)
    refine okk_in (fun b6_ => ?_) (fun b6_ => ?_)
    · refine okk_f (by decide) ?_
      try have t7_ : (100 : Int32).toInt = (100 : Int) := (by decide : (100 : Int32).toInt = 100)
      refine okk_in (fun b8_ => ?_) (fun b8_ => ?_)
      · refine okk_f (by decide) ?_
        try have t9_ : (1 : Int32).toInt = (1 : Int) := (by decide : (1 : Int32).toInt = 1)
        refine okk_in (fun b10_ => ?_) (fun b10_ => ?_)
        · refine okk_t (by decide) ?_
          unfold fm_rule_48
          refine okk_isKind (fun b11_ => ?_) (fun b11_ => ?_)
          · refine okk_t (by decide) ?_
            unfold fm_rule_63
            obtain ⟨u12_, eu12_⟩ : ∃ y, y = g_sI u 0 (0 : Int32) := ⟨_, rfl⟩
            refine okk_bs (v := ((0 : Int32), u12_)) (by rw [eu12_]; exact fm_thr_0 _) ?_
            dsimp only
            have Iu12_ : IM g u12_ := by rw [eu12_]; exact IM_ix I _ (by decide)
            have h013_ : (u12_.1 0).toInt = 0 := by rw [eu12_, rdI, if_pos rfl]; decide
            have z14_ : (u12_.1 1).toInt = (u.1 1).toInt := by rw [eu12_]; rfl
            have z15_ : (u12_.1 2).toInt = (u.1 2).toInt := by rw [eu12_]; rfl
            refine okk_t (by decide) ?_
            refine okk_ck (vp_I (by omega) (by omega)) ?_
            refine okk_gl (fun u416_ eu416_ => ?_)
            have Iu416_ : IM g u416_ := by rw [eu416_]; exact IM_wx Iu12_ 0 _ _ rfl rfl (by decide)
            have z17_ : (u416_.1 0).toInt = (u12_.1 0).toInt := by rw [eu416_]; rfl
            have z18_ : (u416_.1 1).toInt = (u12_.1 1).toInt := by rw [eu416_]; rfl
            have z19_ : (u416_.1 2).toInt = (u12_.1 2).toInt := by rw [eu416_]; rfl
            refine okk_ck (vp_I (by omega) (by omega)) ?_
            refine okk_gl (fun u520_ eu520_ => ?_)
            have Iu520_ : IM g u520_ := by rw [eu520_]; exact IM_wx Iu416_ 1 _ _ rfl rfl (by decide)
            have z21_ : (u520_.1 0).toInt = (u416_.1 0).toInt := by rw [eu520_]; rfl
            have z22_ : (u520_.1 1).toInt = (u416_.1 1).toInt := by rw [eu520_]; rfl
            have z23_ : (u520_.1 2).toInt = (u416_.1 2).toInt := by rw [eu520_]; rfl
            refine okk_ck (vp_I (by omega) (by omega)) ?_
            refine okk_gl (fun u624_ eu624_ => ?_)
            have Iu624_ : IM g u624_ := by rw [eu624_]; exact IM_wx Iu520_ 2 _ _ rfl rfl (by decide)
            have z25_ : (u624_.1 0).toInt = (u520_.1 0).toInt := by rw [eu624_]; rfl
            have z26_ : (u624_.1 1).toInt = (u520_.1 1).toInt := by rw [eu624_]; rfl
            have z27_ : (u624_.1 2).toInt = (u520_.1 2).toInt := by rw [eu624_]; rfl
            refine okk_ck (vp_I (by omega) (by omega)) ?_
            refine okk_gl (fun u728_ eu728_ => ?_)
            have Iu728_ : IM g u728_ := by rw [eu728_]; exact IM_wx Iu624_ 3 _ _ rfl rfl (by decide)
            have z29_ : (u728_.1 0).toInt = (u624_.1 0).toInt := by rw [eu728_]; rfl
            have z30_ : (u728_.1 1).toInt = (u624_.1 1).toInt := by rw [eu728_]; rfl
            have z31_ : (u728_.1 2).toInt = (u624_.1 2).toInt := by rw [eu728_]; rfl
            exact okk_some (⟨Iu728_, (by show ((u728_.1 0).toInt = 1 ∧ ¬ (0 ≤ p1.toInt ∧ p1.toInt ≤ 7)) ∨ ((u728_.1 0).toInt = 2 ∧ (0 ≤ p1.toInt ∧ p1.toInt ≤ 7) ∧ ¬ (0 ≤ p2.toInt ∧ p2.toInt ≤ 20000 ∧ 0 ≤ p3.toInt ∧ p3.toInt ≤ 100000 ∧ 0 ≤ p4.toInt ∧ p4.toInt ≤ 100 ∧ 1 ≤ p5.toInt ∧ p5.toInt ≤ 100)) ∨ ((u728_.1 0).toInt = 0 ∧ (0 ≤ p1.toInt ∧ p1.toInt ≤ 7) ∧ (0 ≤ p2.toInt ∧ p2.toInt ≤ 20000 ∧ 0 ≤ p3.toInt ∧ p3.toInt ≤ 100000 ∧ 0 ≤ p4.toInt ∧ p4.toInt ≤ 100 ∧ 1 ≤ p5.toInt ∧ p5.toInt ≤ 100)); omega), (fun _ => by rw [eu728_, eu624_, eu520_, eu416_, eu12_]), (fun q => absurd (by omega) q)⟩)
          · refine okk_f (by decide) ?_
            unfold fm_rule_63
            obtain ⟨u32_, eu32_⟩ : ∃ y, y = g_sI u 0 (1 : Int32) := ⟨_, rfl⟩
            refine okk_bs (v := ((1 : Int32), u32_)) (by rw [eu32_]; exact fm_thr_1 _ _ _) ?_
            dsimp only
            have Iu32_ : IM g u32_ := by rw [eu32_]; exact IM_ix I _ (by decide)
            have h033_ : (u32_.1 0).toInt = 1 := by rw [eu32_, rdI, if_pos rfl]; decide
            have z34_ : (u32_.1 1).toInt = (u.1 1).toInt := by rw [eu32_]; rfl
            have z35_ : (u32_.1 2).toInt = (u.1 2).toInt := by rw [eu32_]; rfl
            refine okk_f (by decide) ?_
            exact okk_some (⟨Iu32_, (by show ((u32_.1 0).toInt = 1 ∧ ¬ (0 ≤ p1.toInt ∧ p1.toInt ≤ 7)) ∨ ((u32_.1 0).toInt = 2 ∧ (0 ≤ p1.toInt ∧ p1.toInt ≤ 7) ∧ ¬ (0 ≤ p2.toInt ∧ p2.toInt ≤ 20000 ∧ 0 ≤ p3.toInt ∧ p3.toInt ≤ 100000 ∧ 0 ≤ p4.toInt ∧ p4.toInt ≤ 100 ∧ 1 ≤ p5.toInt ∧ p5.toInt ≤ 100)) ∨ ((u32_.1 0).toInt = 0 ∧ (0 ≤ p1.toInt ∧ p1.toInt ≤ 7) ∧ (0 ≤ p2.toInt ∧ p2.toInt ≤ 20000 ∧ 0 ≤ p3.toInt ∧ p3.toInt ≤ 100000 ∧ 0 ≤ p4.toInt ∧ p4.toInt ≤ 100 ∧ 1 ≤ p5.toInt ∧ p5.toInt ≤ 100)); omega), (fun q => absurd q (by omega)), (fun _ => ⟨_, by rw [eu32_]⟩)⟩)
        · refine okk_f (by decide) ?_
          unfold fm_rule_48
          refine okk_isKind (fun b36_ => ?_) (fun b36_ => ?_)
          · refine okk_t (by decide) ?_
            unfold fm_rule_63
            obtain ⟨u37_, eu37_⟩ : ∃ y, y = g_sI u 0 (2 : Int32) := ⟨_, rfl⟩
            refine okk_bs (v := ((1 : Int32), u37_)) (by rw [eu37_]; exact fm_thr_2 _ _) ?_
            dsimp only
            have Iu37_ : IM g u37_ := by rw [eu37_]; exact IM_ix I _ (by decide)
            have h038_ : (u37_.1 0).toInt = 2 := by rw [eu37_, rdI, if_pos rfl]; decide
            have z39_ : (u37_.1 1).toInt = (u.1 1).toInt := by rw [eu37_]; rfl
            have z40_ : (u37_.1 2).toInt = (u.1 2).toInt := by rw [eu37_]; rfl
            refine okk_f (by decide) ?_
            exact okk_some (⟨Iu37_, (by show ((u37_.1 0).toInt = 1 ∧ ¬ (0 ≤ p1.toInt ∧ p1.toInt ≤ 7)) ∨ ((u37_.1 0).toInt = 2 ∧ (0 ≤ p1.toInt ∧ p1.toInt ≤ 7) ∧ ¬ (0 ≤ p2.toInt ∧ p2.toInt ≤ 20000 ∧ 0 ≤ p3.toInt ∧ p3.toInt ≤ 100000 ∧ 0 ≤ p4.toInt ∧ p4.toInt ≤ 100 ∧ 1 ≤ p5.toInt ∧ p5.toInt ≤ 100)) ∨ ((u37_.1 0).toInt = 0 ∧ (0 ≤ p1.toInt ∧ p1.toInt ≤ 7) ∧ (0 ≤ p2.toInt ∧ p2.toInt ≤ 20000 ∧ 0 ≤ p3.toInt ∧ p3.toInt ≤ 100000 ∧ 0 ≤ p4.toInt ∧ p4.toInt ≤ 100 ∧ 1 ≤ p5.toInt ∧ p5.toInt ≤ 100)); omega), (fun q => absurd q (by omega)), (fun _ => ⟨_, by rw [eu37_]⟩)⟩)
          · refine okk_f (by decide) ?_
            unfold fm_rule_63
            obtain ⟨u41_, eu41_⟩ : ∃ y, y = g_sI u 0 (1 : Int32) := ⟨_, rfl⟩
            refine okk_bs (v := ((1 : Int32), u41_)) (by rw [eu41_]; exact fm_thr_1 _ _ _) ?_
            dsimp only
            have Iu41_ : IM g u41_ := by rw [eu41_]; exact IM_ix I _ (by decide)
            have h042_ : (u41_.1 0).toInt = 1 := by rw [eu41_, rdI, if_pos rfl]; decide
            have z43_ : (u41_.1 1).toInt = (u.1 1).toInt := by rw [eu41_]; rfl
            have z44_ : (u41_.1 2).toInt = (u.1 2).toInt := by rw [eu41_]; rfl
            refine okk_f (by decide) ?_
            exact okk_some (⟨Iu41_, (by show ((u41_.1 0).toInt = 1 ∧ ¬ (0 ≤ p1.toInt ∧ p1.toInt ≤ 7)) ∨ ((u41_.1 0).toInt = 2 ∧ (0 ≤ p1.toInt ∧ p1.toInt ≤ 7) ∧ ¬ (0 ≤ p2.toInt ∧ p2.toInt ≤ 20000 ∧ 0 ≤ p3.toInt ∧ p3.toInt ≤ 100000 ∧ 0 ≤ p4.toInt ∧ p4.toInt ≤ 100 ∧ 1 ≤ p5.toInt ∧ p5.toInt ≤ 100)) ∨ ((u41_.1 0).toInt = 0 ∧ (0 ≤ p1.toInt ∧ p1.toInt ≤ 7) ∧ (0 ≤ p2.toInt ∧ p2.toInt ≤ 20000 ∧ 0 ≤ p3.toInt ∧ p3.toInt ≤ 100000 ∧ 0 ≤ p4.toInt ∧ p4.toInt ≤ 100 ∧ 1 ≤ p5.toInt ∧ p5.toInt ≤ 100)); omega), (fun q => absurd q (by omega)), (fun _ => ⟨_, by rw [eu41_]⟩)⟩)
      · refine okk_t (by decide) ?_
        unfold fm_rule_48
        refine okk_isKind (fun b45_ => ?_) (fun b45_ => ?_)
        · refine okk_t (by decide) ?_
          unfold fm_rule_63
          obtain ⟨u46_, eu46_⟩ : ∃ y, y = g_sI u 0 (2 : Int32) := ⟨_, rfl⟩
          refine okk_bs (v := ((1 : Int32), u46_)) (by rw [eu46_]; exact fm_thr_2 _ _) ?_
          dsimp only
          have Iu46_ : IM g u46_ := by rw [eu46_]; exact IM_ix I _ (by decide)
          have h047_ : (u46_.1 0).toInt = 2 := by rw [eu46_, rdI, if_pos rfl]; decide
          have z48_ : (u46_.1 1).toInt = (u.1 1).toInt := by rw [eu46_]; rfl
          have z49_ : (u46_.1 2).toInt = (u.1 2).toInt := by rw [eu46_]; rfl
          refine okk_f (by decide) ?_
          exact okk_some (⟨Iu46_, (by show ((u46_.1 0).toInt = 1 ∧ ¬ (0 ≤ p1.toInt ∧ p1.toInt ≤ 7)) ∨ ((u46_.1 0).toInt = 2 ∧ (0 ≤ p1.toInt ∧ p1.toInt ≤ 7) ∧ ¬ (0 ≤ p2.toInt ∧ p2.toInt ≤ 20000 ∧ 0 ≤ p3.toInt ∧ p3.toInt ≤ 100000 ∧ 0 ≤ p4.toInt ∧ p4.toInt ≤ 100 ∧ 1 ≤ p5.toInt ∧ p5.toInt ≤ 100)) ∨ ((u46_.1 0).toInt = 0 ∧ (0 ≤ p1.toInt ∧ p1.toInt ≤ 7) ∧ (0 ≤ p2.toInt ∧ p2.toInt ≤ 20000 ∧ 0 ≤ p3.toInt ∧ p3.toInt ≤ 100000 ∧ 0 ≤ p4.toInt ∧ p4.toInt ≤ 100 ∧ 1 ≤ p5.toInt ∧ p5.toInt ≤ 100)); omega), (fun q => absurd q (by omega)), (fun _ => ⟨_, by rw [eu46_]⟩)⟩)
        · refine okk_f (by decide) ?_
          unfold fm_rule_63
          obtain ⟨u50_, eu50_⟩ : ∃ y, y = g_sI u 0 (1 : Int32) := ⟨_, rfl⟩
          refine okk_bs (v := ((1 : Int32), u50_)) (by rw [eu50_]; exact fm_thr_1 _ _ _) ?_
          dsimp only
          have Iu50_ : IM g u50_ := by rw [eu50_]; exact IM_ix I _ (by decide)
          have h051_ : (u50_.1 0).toInt = 1 := by rw [eu50_, rdI, if_pos rfl]; decide
          have z52_ : (u50_.1 1).toInt = (u.1 1).toInt := by rw [eu50_]; rfl
          have z53_ : (u50_.1 2).toInt = (u.1 2).toInt := by rw [eu50_]; rfl
          refine okk_f (by decide) ?_
          exact okk_some (⟨Iu50_, (by show ((u50_.1 0).toInt = 1 ∧ ¬ (0 ≤ p1.toInt ∧ p1.toInt ≤ 7)) ∨ ((u50_.1 0).toInt = 2 ∧ (0 ≤ p1.toInt ∧ p1.toInt ≤ 7) ∧ ¬ (0 ≤ p2.toInt ∧ p2.toInt ≤ 20000 ∧ 0 ≤ p3.toInt ∧ p3.toInt ≤ 100000 ∧ 0 ≤ p4.toInt ∧ p4.toInt ≤ 100 ∧ 1 ≤ p5.toInt ∧ p5.toInt ≤ 100)) ∨ ((u50_.1 0).toInt = 0 ∧ (0 ≤ p1.toInt ∧ p1.toInt ≤ 7) ∧ (0 ≤ p2.toInt ∧ p2.toInt ≤ 20000 ∧ 0 ≤ p3.toInt ∧ p3.toInt ≤ 100000 ∧ 0 ≤ p4.toInt ∧ p4.toInt ≤ 100 ∧ 1 ≤ p5.toInt ∧ p5.toInt ≤ 100)); omega), (fun q => absurd q (by omega)), (fun _ => ⟨_, by rw [eu50_]⟩)⟩)
    · refine okk_t (by decide) ?_
      unfold fm_rule_48
      refine okk_isKind (fun b54_ => ?_) (fun b54_ => ?_)
      · refine okk_t (by decide) ?_
        unfold fm_rule_63
        obtain ⟨u55_, eu55_⟩ : ∃ y, y = g_sI u 0 (2 : Int32) := ⟨_, rfl⟩
        refine okk_bs (v := ((1 : Int32), u55_)) (by rw [eu55_]; exact fm_thr_2 _ _) ?_
        dsimp only
        have Iu55_ : IM g u55_ := by rw [eu55_]; exact IM_ix I _ (by decide)
        have h056_ : (u55_.1 0).toInt = 2 := by rw [eu55_, rdI, if_pos rfl]; decide
        have z57_ : (u55_.1 1).toInt = (u.1 1).toInt := by rw [eu55_]; rfl
        have z58_ : (u55_.1 2).toInt = (u.1 2).toInt := by rw [eu55_]; rfl
        refine okk_f (by decide) ?_
        exact okk_some (⟨Iu55_, (by show ((u55_.1 0).toInt = 1 ∧ ¬ (0 ≤ p1.toInt ∧ p1.toInt ≤ 7)) ∨ ((u55_.1 0).toInt = 2 ∧ (0 ≤ p1.toInt ∧ p1.toInt ≤ 7) ∧ ¬ (0 ≤ p2.toInt ∧ p2.toInt ≤ 20000 ∧ 0 ≤ p3.toInt ∧ p3.toInt ≤ 100000 ∧ 0 ≤ p4.toInt ∧ p4.toInt ≤ 100 ∧ 1 ≤ p5.toInt ∧ p5.toInt ≤ 100)) ∨ ((u55_.1 0).toInt = 0 ∧ (0 ≤ p1.toInt ∧ p1.toInt ≤ 7) ∧ (0 ≤ p2.toInt ∧ p2.toInt ≤ 20000 ∧ 0 ≤ p3.toInt ∧ p3.toInt ≤ 100000 ∧ 0 ≤ p4.toInt ∧ p4.toInt ≤ 100 ∧ 1 ≤ p5.toInt ∧ p5.toInt ≤ 100)); omega), (fun q => absurd q (by omega)), (fun _ => ⟨_, by rw [eu55_]⟩)⟩)
      · refine okk_f (by decide) ?_
        unfold fm_rule_63
        obtain ⟨u59_, eu59_⟩ : ∃ y, y = g_sI u 0 (1 : Int32) := ⟨_, rfl⟩
        refine okk_bs (v := ((1 : Int32), u59_)) (by rw [eu59_]; exact fm_thr_1 _ _ _) ?_
        dsimp only
        have Iu59_ : IM g u59_ := by rw [eu59_]; exact IM_ix I _ (by decide)
        have h060_ : (u59_.1 0).toInt = 1 := by rw [eu59_, rdI, if_pos rfl]; decide
        have z61_ : (u59_.1 1).toInt = (u.1 1).toInt := by rw [eu59_]; rfl
        have z62_ : (u59_.1 2).toInt = (u.1 2).toInt := by rw [eu59_]; rfl
        refine okk_f (by decide) ?_
        exact okk_some (⟨Iu59_, (by show ((u59_.1 0).toInt = 1 ∧ ¬ (0 ≤ p1.toInt ∧ p1.toInt ≤ 7)) ∨ ((u59_.1 0).toInt = 2 ∧ (0 ≤ p1.toInt ∧ p1.toInt ≤ 7) ∧ ¬ (0 ≤ p2.toInt ∧ p2.toInt ≤ 20000 ∧ 0 ≤ p3.toInt ∧ p3.toInt ≤ 100000 ∧ 0 ≤ p4.toInt ∧ p4.toInt ≤ 100 ∧ 1 ≤ p5.toInt ∧ p5.toInt ≤ 100)) ∨ ((u59_.1 0).toInt = 0 ∧ (0 ≤ p1.toInt ∧ p1.toInt ≤ 7) ∧ (0 ≤ p2.toInt ∧ p2.toInt ≤ 20000 ∧ 0 ≤ p3.toInt ∧ p3.toInt ≤ 100000 ∧ 0 ≤ p4.toInt ∧ p4.toInt ≤ 100 ∧ 1 ≤ p5.toInt ∧ p5.toInt ≤ 100)); omega), (fun q => absurd q (by omega)), (fun _ => ⟨_, by rw [eu59_]⟩)⟩)
  · refine okk_t (by decide) ?_
    unfold fm_rule_48
    refine okk_isKind (fun b63_ => ?_) (fun b63_ => ?_)
    · refine okk_t (by decide) ?_
      unfold fm_rule_63
      obtain ⟨u64_, eu64_⟩ : ∃ y, y = g_sI u 0 (2 : Int32) := ⟨_, rfl⟩
      refine okk_bs (v := ((1 : Int32), u64_)) (by rw [eu64_]; exact fm_thr_2 _ _) ?_
      dsimp only
      have Iu64_ : IM g u64_ := by rw [eu64_]; exact IM_ix I _ (by decide)
      have h065_ : (u64_.1 0).toInt = 2 := by rw [eu64_, rdI, if_pos rfl]; decide
      have z66_ : (u64_.1 1).toInt = (u.1 1).toInt := by rw [eu64_]; rfl
      have z67_ : (u64_.1 2).toInt = (u.1 2).toInt := by rw [eu64_]; rfl
      refine okk_f (by decide) ?_
      exact okk_some (⟨Iu64_, (by show ((u64_.1 0).toInt = 1 ∧ ¬ (0 ≤ p1.toInt ∧ p1.toInt ≤ 7)) ∨ ((u64_.1 0).toInt = 2 ∧ (0 ≤ p1.toInt ∧ p1.toInt ≤ 7) ∧ ¬ (0 ≤ p2.toInt ∧ p2.toInt ≤ 20000 ∧ 0 ≤ p3.toInt ∧ p3.toInt ≤ 100000 ∧ 0 ≤ p4.toInt ∧ p4.toInt ≤ 100 ∧ 1 ≤ p5.toInt ∧ p5.toInt ≤ 100)) ∨ ((u64_.1 0).toInt = 0 ∧ (0 ≤ p1.toInt ∧ p1.toInt ≤ 7) ∧ (0 ≤ p2.toInt ∧ p2.toInt ≤ 20000 ∧ 0 ≤ p3.toInt ∧ p3.toInt ≤ 100000 ∧ 0 ≤ p4.toInt ∧ p4.toInt ≤ 100 ∧ 1 ≤ p5.toInt ∧ p5.toInt ≤ 100)); omega), (fun q => absurd q (by omega)), (fun _ => ⟨_, by rw [eu64_]⟩)⟩)
    · refine okk_f (by decide) ?_
      unfold fm_rule_63
      obtain ⟨u68_, eu68_⟩ : ∃ y, y = g_sI u 0 (1 : Int32) := ⟨_, rfl⟩
      refine okk_bs (v := ((1 : Int32), u68_)) (by rw [eu68_]; exact fm_thr_1 _ _ _) ?_
      dsimp only
      have Iu68_ : IM g u68_ := by rw [eu68_]; exact IM_ix I _ (by decide)
      have h069_ : (u68_.1 0).toInt = 1 := by rw [eu68_, rdI, if_pos rfl]; decide
      have z70_ : (u68_.1 1).toInt = (u.1 1).toInt := by rw [eu68_]; rfl
      have z71_ : (u68_.1 2).toInt = (u.1 2).toInt := by rw [eu68_]; rfl
      refine okk_f (by decide) ?_
      exact okk_some (⟨Iu68_, (by show ((u68_.1 0).toInt = 1 ∧ ¬ (0 ≤ p1.toInt ∧ p1.toInt ≤ 7)) ∨ ((u68_.1 0).toInt = 2 ∧ (0 ≤ p1.toInt ∧ p1.toInt ≤ 7) ∧ ¬ (0 ≤ p2.toInt ∧ p2.toInt ≤ 20000 ∧ 0 ≤ p3.toInt ∧ p3.toInt ≤ 100000 ∧ 0 ≤ p4.toInt ∧ p4.toInt ≤ 100 ∧ 1 ≤ p5.toInt ∧ p5.toInt ≤ 100)) ∨ ((u68_.1 0).toInt = 0 ∧ (0 ≤ p1.toInt ∧ p1.toInt ≤ 7) ∧ (0 ≤ p2.toInt ∧ p2.toInt ≤ 20000 ∧ 0 ≤ p3.toInt ∧ p3.toInt ≤ 100000 ∧ 0 ≤ p4.toInt ∧ p4.toInt ≤ 100 ∧ 1 ≤ p5.toInt ∧ p5.toInt ≤ 100)); omega), (fun q => absurd q (by omega)), (fun _ => ⟨_, by rw [eu68_]⟩)⟩)
set_option maxHeartbeats 4000000 in
theorem okl_fcJ_weight {g : Nat → Int32} {u : g_S} (I : IC g u) {p1 : Int32} {p2 : Int32} {p3 : Int32} : okk (fcJ_weight u p1 p2 p3) (fun r => IC g r.2 ∧ ((r.1 = 1 ∧ ¬ (0 ≤ p1.toInt ∧ p1.toInt ≤ 7 ∧ 0 ≤ p2.toInt ∧ p2.toInt ≤ 31)) ∨ (r.1 = 2 ∧ (0 ≤ p1.toInt ∧ p1.toInt ≤ 7 ∧ 0 ≤ p2.toInt ∧ p2.toInt ≤ 31) ∧ ¬ (0 ≤ p3.toInt ∧ p3.toInt ≤ 100)) ∨ (r.1 = 0 ∧ (0 ≤ p1.toInt ∧ p1.toInt ≤ 7 ∧ 0 ≤ p2.toInt ∧ p2.toInt ≤ 31) ∧ (0 ≤ p3.toInt ∧ p3.toInt ≤ 100))) ∧ (r.1 = 0 → r.2 = g_sA u 4 ((p1 * (32 : Int32)) + p2) p3) ∧ (¬ r.1 = 0 → r.2 = u)) := by
  unfold fcJ_weight
  have z1_ := IC_s I
  try have t2_ : (8 : Int32).toInt = (8 : Int) := (by decide : (8 : Int32).toInt = 8)
  refine okk_isBelow (fun b3_ => ?_) (fun b3_ => ?_)
  · refine okk_f (by decide) ?_
    try have t4_ : (32 : Int32).toInt = (32 : Int) := (by decide : (32 : Int32).toInt = 32)
    refine okk_isBelow (fun b5_ => ?_) (fun b5_ => ?_)
    · refine okk_f (by decide) ?_
      unfold fcJ_weight_23
      refine okk_bs (v := (0 : Nat)) (by decide) ?_
      refine okk_t (by decide) ?_
      try have t6_ : (101 : Int32).toInt = (101 : Int) := (by decide : (101 : Int32).toInt = 101)
      refine okk_isBelow (fun b7_ => ?_) (fun b7_ => ?_)
      · refine okk_bs (v := (0 : Nat)) (by decide) ?_
        refine okk_t (by decide) ?_
        have t8_ : ((p1 * (32 : Int32)) + p2).toInt = ((p1.toInt * (32 : Int)) + p2.toInt) := (oi_add (a := (p1 * (32 : Int32))) (b := p2) (oi_mul (a := p1) (b := (32 : Int32)) rfl (by decide : (32 : Int32).toInt = 32) (by omega) (by omega)) rfl (by omega) (by omega))
        refine okk_ck (vp_I (by omega) (by omega)) ?_
        refine okk_gl (fun u59_ eu59_ => ?_)
        have Iu59_ : IC g u59_ := by rw [eu59_]; exact IC_wx I 4 _ _ rfl rfl (by decide)
        have z10_ : (u59_.1 0).toInt = (u.1 0).toInt := by rw [eu59_]; rfl
        have z11_ : (u59_.1 1).toInt = (u.1 1).toInt := by rw [eu59_]; rfl
        exact okk_some (⟨Iu59_, (by show (0 = 1 ∧ ¬ (0 ≤ p1.toInt ∧ p1.toInt ≤ 7 ∧ 0 ≤ p2.toInt ∧ p2.toInt ≤ 31)) ∨ (0 = 2 ∧ (0 ≤ p1.toInt ∧ p1.toInt ≤ 7 ∧ 0 ≤ p2.toInt ∧ p2.toInt ≤ 31) ∧ ¬ (0 ≤ p3.toInt ∧ p3.toInt ≤ 100)) ∨ (0 = 0 ∧ (0 ≤ p1.toInt ∧ p1.toInt ≤ 7 ∧ 0 ≤ p2.toInt ∧ p2.toInt ≤ 31) ∧ (0 ≤ p3.toInt ∧ p3.toInt ≤ 100)); omega), (fun _ => by rw [eu59_]), (fun q => absurd rfl q)⟩)
      · refine okk_bs (v := (2 : Nat)) (by decide) ?_
        refine okk_f (by decide) ?_
        exact okk_some (⟨I, (by show (2 = 1 ∧ ¬ (0 ≤ p1.toInt ∧ p1.toInt ≤ 7 ∧ 0 ≤ p2.toInt ∧ p2.toInt ≤ 31)) ∨ (2 = 2 ∧ (0 ≤ p1.toInt ∧ p1.toInt ≤ 7 ∧ 0 ≤ p2.toInt ∧ p2.toInt ≤ 31) ∧ ¬ (0 ≤ p3.toInt ∧ p3.toInt ≤ 100)) ∨ (2 = 0 ∧ (0 ≤ p1.toInt ∧ p1.toInt ≤ 7 ∧ 0 ≤ p2.toInt ∧ p2.toInt ≤ 31) ∧ (0 ≤ p3.toInt ∧ p3.toInt ≤ 100)); omega), (fun q => by simp at q), (fun _ => rfl)⟩)
    · refine okk_t (by decide) ?_
      unfold fcJ_weight_23
      refine okk_bs (v := (1 : Nat)) (by decide) ?_
      refine okk_f (by decide) ?_
      exact okk_some (⟨I, (by show (1 = 1 ∧ ¬ (0 ≤ p1.toInt ∧ p1.toInt ≤ 7 ∧ 0 ≤ p2.toInt ∧ p2.toInt ≤ 31)) ∨ (1 = 2 ∧ (0 ≤ p1.toInt ∧ p1.toInt ≤ 7 ∧ 0 ≤ p2.toInt ∧ p2.toInt ≤ 31) ∧ ¬ (0 ≤ p3.toInt ∧ p3.toInt ≤ 100)) ∨ (1 = 0 ∧ (0 ≤ p1.toInt ∧ p1.toInt ≤ 7 ∧ 0 ≤ p2.toInt ∧ p2.toInt ≤ 31) ∧ (0 ≤ p3.toInt ∧ p3.toInt ≤ 100)); omega), (fun q => by simp at q), (fun _ => rfl)⟩)
  · refine okk_t (by decide) ?_
    unfold fcJ_weight_23
    refine okk_bs (v := (1 : Nat)) (by decide) ?_
    refine okk_f (by decide) ?_
    exact okk_some (⟨I, (by show (1 = 1 ∧ ¬ (0 ≤ p1.toInt ∧ p1.toInt ≤ 7 ∧ 0 ≤ p2.toInt ∧ p2.toInt ≤ 31)) ∨ (1 = 2 ∧ (0 ≤ p1.toInt ∧ p1.toInt ≤ 7 ∧ 0 ≤ p2.toInt ∧ p2.toInt ≤ 31) ∧ ¬ (0 ≤ p3.toInt ∧ p3.toInt ≤ 100)) ∨ (1 = 0 ∧ (0 ≤ p1.toInt ∧ p1.toInt ≤ 7 ∧ 0 ≤ p2.toInt ∧ p2.toInt ≤ 31) ∧ (0 ≤ p3.toInt ∧ p3.toInt ≤ 100)); omega), (fun q => by simp at q), (fun _ => rfl)⟩)
set_option maxHeartbeats 4000000 in
theorem okl_fm_weight {g : Nat → Int32} {u : g_S} (I : IM g u) {p1 : Int32} {p2 : Int32} {p3 : Int32} : okk (fm_weight u p1 p2 p3) (fun r => IM g r ∧ (((r.1 0).toInt = 1 ∧ ¬ (0 ≤ p1.toInt ∧ p1.toInt ≤ 7 ∧ 0 ≤ p2.toInt ∧ p2.toInt ≤ 31)) ∨ ((r.1 0).toInt = 2 ∧ (0 ≤ p1.toInt ∧ p1.toInt ≤ 7 ∧ 0 ≤ p2.toInt ∧ p2.toInt ≤ 31) ∧ ¬ (0 ≤ p3.toInt ∧ p3.toInt ≤ 100)) ∨ ((r.1 0).toInt = 0 ∧ (0 ≤ p1.toInt ∧ p1.toInt ≤ 7 ∧ 0 ≤ p2.toInt ∧ p2.toInt ≤ 31) ∧ (0 ≤ p3.toInt ∧ p3.toInt ≤ 100))) ∧ ((r.1 0).toInt = 0 → r = g_sA (g_sI u 0 (0 : Int32)) 4 (((32 : Int32) * p1) + p2) p3) ∧ (¬ (r.1 0).toInt = 0 → ∃ k : Int32, r = g_sI u 0 k)) := by
  unfold fm_weight
  have z1_ := IM_s I
  refine okk_isKind (fun b2_ => ?_) (fun b2_ => ?_)
  · refine okk_f (by decide) ?_
    try have t3_ : (0 : Int32).toInt = (0 : Int) := (by decide : (0 : Int32).toInt = 0)
    try have t4_ : (31 : Int32).toInt = (31 : Int) := (by decide : (31 : Int32).toInt = 31)
    refine okk_in (fun b5_ => ?_) (fun b5_ => ?_)
    · refine okk_t (by decide) ?_
      unfold fm_weight_23
      try have t6_ : (100 : Int32).toInt = (100 : Int) := (by decide : (100 : Int32).toInt = 100)
      refine okk_in (fun b7_ => ?_) (fun b7_ => ?_)
      · refine okk_t (by decide) ?_
        unfold fm_weight_38
        obtain ⟨u8_, eu8_⟩ : ∃ y, y = g_sI u 0 (0 : Int32) := ⟨_, rfl⟩
        refine okk_bs (v := ((0 : Int32), u8_)) (by rw [eu8_]; exact fm_thr_0 _) ?_
        dsimp only
        have Iu8_ : IM g u8_ := by rw [eu8_]; exact IM_ix I _ (by decide)
        have h09_ : (u8_.1 0).toInt = 0 := by rw [eu8_, rdI, if_pos rfl]; decide
        have z10_ : (u8_.1 1).toInt = (u.1 1).toInt := by rw [eu8_]; rfl
        have z11_ : (u8_.1 2).toInt = (u.1 2).toInt := by rw [eu8_]; rfl
        refine okk_t (by decide) ?_
        have t12_ : (((32 : Int32) * p1) + p2).toInt = (((32 : Int) * p1.toInt) + p2.toInt) := (oi_add (a := ((32 : Int32) * p1)) (b := p2) (oi_mul (a := (32 : Int32)) (b := p1) (by decide : (32 : Int32).toInt = 32) rfl (by omega) (by omega)) rfl (by omega) (by omega))
        refine okk_ck (vp_I (by omega) (by omega)) ?_
        refine okk_gl (fun u413_ eu413_ => ?_)
        have Iu413_ : IM g u413_ := by rw [eu413_]; exact IM_wx Iu8_ 4 _ _ rfl rfl (by decide)
        have z14_ : (u413_.1 0).toInt = (u8_.1 0).toInt := by rw [eu413_]; rfl
        have z15_ : (u413_.1 1).toInt = (u8_.1 1).toInt := by rw [eu413_]; rfl
        have z16_ : (u413_.1 2).toInt = (u8_.1 2).toInt := by rw [eu413_]; rfl
        exact okk_some (⟨Iu413_, (by show ((u413_.1 0).toInt = 1 ∧ ¬ (0 ≤ p1.toInt ∧ p1.toInt ≤ 7 ∧ 0 ≤ p2.toInt ∧ p2.toInt ≤ 31)) ∨ ((u413_.1 0).toInt = 2 ∧ (0 ≤ p1.toInt ∧ p1.toInt ≤ 7 ∧ 0 ≤ p2.toInt ∧ p2.toInt ≤ 31) ∧ ¬ (0 ≤ p3.toInt ∧ p3.toInt ≤ 100)) ∨ ((u413_.1 0).toInt = 0 ∧ (0 ≤ p1.toInt ∧ p1.toInt ≤ 7 ∧ 0 ≤ p2.toInt ∧ p2.toInt ≤ 31) ∧ (0 ≤ p3.toInt ∧ p3.toInt ≤ 100)); omega), (fun _ => by rw [eu413_, eu8_]), (fun q => absurd (by omega) q)⟩)
      · refine okk_f (by decide) ?_
        unfold fm_weight_38
        obtain ⟨u17_, eu17_⟩ : ∃ y, y = g_sI u 0 (2 : Int32) := ⟨_, rfl⟩
        refine okk_bs (v := ((1 : Int32), u17_)) (by rw [eu17_]; exact fm_thr_2 _ _) ?_
        dsimp only
        have Iu17_ : IM g u17_ := by rw [eu17_]; exact IM_ix I _ (by decide)
        have h018_ : (u17_.1 0).toInt = 2 := by rw [eu17_, rdI, if_pos rfl]; decide
        have z19_ : (u17_.1 1).toInt = (u.1 1).toInt := by rw [eu17_]; rfl
        have z20_ : (u17_.1 2).toInt = (u.1 2).toInt := by rw [eu17_]; rfl
        refine okk_f (by decide) ?_
        exact okk_some (⟨Iu17_, (by show ((u17_.1 0).toInt = 1 ∧ ¬ (0 ≤ p1.toInt ∧ p1.toInt ≤ 7 ∧ 0 ≤ p2.toInt ∧ p2.toInt ≤ 31)) ∨ ((u17_.1 0).toInt = 2 ∧ (0 ≤ p1.toInt ∧ p1.toInt ≤ 7 ∧ 0 ≤ p2.toInt ∧ p2.toInt ≤ 31) ∧ ¬ (0 ≤ p3.toInt ∧ p3.toInt ≤ 100)) ∨ ((u17_.1 0).toInt = 0 ∧ (0 ≤ p1.toInt ∧ p1.toInt ≤ 7 ∧ 0 ≤ p2.toInt ∧ p2.toInt ≤ 31) ∧ (0 ≤ p3.toInt ∧ p3.toInt ≤ 100)); omega), (fun q => absurd q (by omega)), (fun _ => ⟨_, by rw [eu17_]⟩)⟩)
    · refine okk_f (by decide) ?_
      unfold fm_weight_23
      try have t21_ : (100 : Int32).toInt = (100 : Int) := (by decide : (100 : Int32).toInt = 100)
      refine okk_in (fun b22_ => ?_) (fun b22_ => ?_)
      · refine okk_t (by decide) ?_
        unfold fm_weight_38
        obtain ⟨u23_, eu23_⟩ : ∃ y, y = g_sI u 0 (1 : Int32) := ⟨_, rfl⟩
        refine okk_bs (v := ((1 : Int32), u23_)) (by rw [eu23_]; exact fm_thr_1 _ _ _) ?_
        dsimp only
        have Iu23_ : IM g u23_ := by rw [eu23_]; exact IM_ix I _ (by decide)
        have h024_ : (u23_.1 0).toInt = 1 := by rw [eu23_, rdI, if_pos rfl]; decide
        have z25_ : (u23_.1 1).toInt = (u.1 1).toInt := by rw [eu23_]; rfl
        have z26_ : (u23_.1 2).toInt = (u.1 2).toInt := by rw [eu23_]; rfl
        refine okk_f (by decide) ?_
        exact okk_some (⟨Iu23_, (by show ((u23_.1 0).toInt = 1 ∧ ¬ (0 ≤ p1.toInt ∧ p1.toInt ≤ 7 ∧ 0 ≤ p2.toInt ∧ p2.toInt ≤ 31)) ∨ ((u23_.1 0).toInt = 2 ∧ (0 ≤ p1.toInt ∧ p1.toInt ≤ 7 ∧ 0 ≤ p2.toInt ∧ p2.toInt ≤ 31) ∧ ¬ (0 ≤ p3.toInt ∧ p3.toInt ≤ 100)) ∨ ((u23_.1 0).toInt = 0 ∧ (0 ≤ p1.toInt ∧ p1.toInt ≤ 7 ∧ 0 ≤ p2.toInt ∧ p2.toInt ≤ 31) ∧ (0 ≤ p3.toInt ∧ p3.toInt ≤ 100)); omega), (fun q => absurd q (by omega)), (fun _ => ⟨_, by rw [eu23_]⟩)⟩)
      · refine okk_f (by decide) ?_
        unfold fm_weight_38
        obtain ⟨u27_, eu27_⟩ : ∃ y, y = g_sI u 0 (1 : Int32) := ⟨_, rfl⟩
        refine okk_bs (v := ((1 : Int32), u27_)) (by rw [eu27_]; exact fm_thr_1 _ _ _) ?_
        dsimp only
        have Iu27_ : IM g u27_ := by rw [eu27_]; exact IM_ix I _ (by decide)
        have h028_ : (u27_.1 0).toInt = 1 := by rw [eu27_, rdI, if_pos rfl]; decide
        have z29_ : (u27_.1 1).toInt = (u.1 1).toInt := by rw [eu27_]; rfl
        have z30_ : (u27_.1 2).toInt = (u.1 2).toInt := by rw [eu27_]; rfl
        refine okk_f (by decide) ?_
        exact okk_some (⟨Iu27_, (by show ((u27_.1 0).toInt = 1 ∧ ¬ (0 ≤ p1.toInt ∧ p1.toInt ≤ 7 ∧ 0 ≤ p2.toInt ∧ p2.toInt ≤ 31)) ∨ ((u27_.1 0).toInt = 2 ∧ (0 ≤ p1.toInt ∧ p1.toInt ≤ 7 ∧ 0 ≤ p2.toInt ∧ p2.toInt ≤ 31) ∧ ¬ (0 ≤ p3.toInt ∧ p3.toInt ≤ 100)) ∨ ((u27_.1 0).toInt = 0 ∧ (0 ≤ p1.toInt ∧ p1.toInt ≤ 7 ∧ 0 ≤ p2.toInt ∧ p2.toInt ≤ 31) ∧ (0 ≤ p3.toInt ∧ p3.toInt ≤ 100)); omega), (fun q => absurd q (by omega)), (fun _ => ⟨_, by rw [eu27_]⟩)⟩)
  · refine okk_t (by decide) ?_
    unfold fm_weight_23
    try have t31_ : (0 : Int32).toInt = (0 : Int) := (by decide : (0 : Int32).toInt = 0)
    try have t32_ : (100 : Int32).toInt = (100 : Int) := (by decide : (100 : Int32).toInt = 100)
    refine okk_in (fun b33_ => ?_) (fun b33_ => ?_)
    · refine okk_t (by decide) ?_
      unfold fm_weight_38
      obtain ⟨u34_, eu34_⟩ : ∃ y, y = g_sI u 0 (1 : Int32) := ⟨_, rfl⟩
      refine okk_bs (v := ((1 : Int32), u34_)) (by rw [eu34_]; exact fm_thr_1 _ _ _) ?_
      dsimp only
      have Iu34_ : IM g u34_ := by rw [eu34_]; exact IM_ix I _ (by decide)
      have h035_ : (u34_.1 0).toInt = 1 := by rw [eu34_, rdI, if_pos rfl]; decide
      have z36_ : (u34_.1 1).toInt = (u.1 1).toInt := by rw [eu34_]; rfl
      have z37_ : (u34_.1 2).toInt = (u.1 2).toInt := by rw [eu34_]; rfl
      refine okk_f (by decide) ?_
      exact okk_some (⟨Iu34_, (by show ((u34_.1 0).toInt = 1 ∧ ¬ (0 ≤ p1.toInt ∧ p1.toInt ≤ 7 ∧ 0 ≤ p2.toInt ∧ p2.toInt ≤ 31)) ∨ ((u34_.1 0).toInt = 2 ∧ (0 ≤ p1.toInt ∧ p1.toInt ≤ 7 ∧ 0 ≤ p2.toInt ∧ p2.toInt ≤ 31) ∧ ¬ (0 ≤ p3.toInt ∧ p3.toInt ≤ 100)) ∨ ((u34_.1 0).toInt = 0 ∧ (0 ≤ p1.toInt ∧ p1.toInt ≤ 7 ∧ 0 ≤ p2.toInt ∧ p2.toInt ≤ 31) ∧ (0 ≤ p3.toInt ∧ p3.toInt ≤ 100)); omega), (fun q => absurd q (by omega)), (fun _ => ⟨_, by rw [eu34_]⟩)⟩)
    · refine okk_f (by decide) ?_
      unfold fm_weight_38
      obtain ⟨u38_, eu38_⟩ : ∃ y, y = g_sI u 0 (1 : Int32) := ⟨_, rfl⟩
      refine okk_bs (v := ((1 : Int32), u38_)) (by rw [eu38_]; exact fm_thr_1 _ _ _) ?_
      dsimp only
      have Iu38_ : IM g u38_ := by rw [eu38_]; exact IM_ix I _ (by decide)
      have h039_ : (u38_.1 0).toInt = 1 := by rw [eu38_, rdI, if_pos rfl]; decide
      have z40_ : (u38_.1 1).toInt = (u.1 1).toInt := by rw [eu38_]; rfl
      have z41_ : (u38_.1 2).toInt = (u.1 2).toInt := by rw [eu38_]; rfl
      refine okk_f (by decide) ?_
      exact okk_some (⟨Iu38_, (by show ((u38_.1 0).toInt = 1 ∧ ¬ (0 ≤ p1.toInt ∧ p1.toInt ≤ 7 ∧ 0 ≤ p2.toInt ∧ p2.toInt ≤ 31)) ∨ ((u38_.1 0).toInt = 2 ∧ (0 ≤ p1.toInt ∧ p1.toInt ≤ 7 ∧ 0 ≤ p2.toInt ∧ p2.toInt ≤ 31) ∧ ¬ (0 ≤ p3.toInt ∧ p3.toInt ≤ 100)) ∨ ((u38_.1 0).toInt = 0 ∧ (0 ≤ p1.toInt ∧ p1.toInt ≤ 7 ∧ 0 ≤ p2.toInt ∧ p2.toInt ≤ 31) ∧ (0 ≤ p3.toInt ∧ p3.toInt ≤ 100)); omega), (fun q => absurd q (by omega)), (fun _ => ⟨_, by rw [eu38_]⟩)⟩)
set_option maxHeartbeats 4000000 in
theorem okl_fcJ_mark {g : Nat → Int32} {u : g_S} (I : IC g u) {p1 : Int32} {p2 : Int32} : okk (fcJ_mark u p1 p2) (fun r => IC g r.2 ∧ ((r.1 = 1 ∧ ¬ (0 ≤ p1.toInt ∧ p1.toInt < (u.1 0).toInt)) ∨ (r.1 = 2 ∧ (0 ≤ p1.toInt ∧ p1.toInt < (u.1 0).toInt) ∧ ¬ (0 ≤ p2.toInt ∧ p2.toInt ≤ 7)) ∨ (r.1 = 0 ∧ (0 ≤ p1.toInt ∧ p1.toInt < (u.1 0).toInt) ∧ (0 ≤ p2.toInt ∧ p2.toInt ≤ 7))) ∧ (r.1 = 0 → r.2 = g_sA u 16 p1 p2) ∧ (¬ r.1 = 0 → r.2 = u)) := by
  unfold fcJ_mark
  have z1_ := IC_s I
  refine okk_isBelow (fun b2_ => ?_) (fun b2_ => ?_)
  · refine okk_bs (v := (0 : Nat)) (by decide) ?_
    refine okk_t (by decide) ?_
    try have t3_ : (8 : Int32).toInt = (8 : Int) := (by decide : (8 : Int32).toInt = 8)
    refine okk_isBelow (fun b4_ => ?_) (fun b4_ => ?_)
    · refine okk_bs (v := (0 : Nat)) (by decide) ?_
      refine okk_t (by decide) ?_
      refine okk_ck (vp_I (by omega) (by omega)) ?_
      refine okk_gl (fun u55_ eu55_ => ?_)
      have Iu55_ : IC g u55_ := by rw [eu55_]; exact IC_wx I 16 _ _ rfl rfl (by decide)
      have z6_ : (u55_.1 0).toInt = (u.1 0).toInt := by rw [eu55_]; rfl
      have z7_ : (u55_.1 1).toInt = (u.1 1).toInt := by rw [eu55_]; rfl
      exact okk_some (⟨Iu55_, (by show (0 = 1 ∧ ¬ (0 ≤ p1.toInt ∧ p1.toInt < (u.1 0).toInt)) ∨ (0 = 2 ∧ (0 ≤ p1.toInt ∧ p1.toInt < (u.1 0).toInt) ∧ ¬ (0 ≤ p2.toInt ∧ p2.toInt ≤ 7)) ∨ (0 = 0 ∧ (0 ≤ p1.toInt ∧ p1.toInt < (u.1 0).toInt) ∧ (0 ≤ p2.toInt ∧ p2.toInt ≤ 7)); omega), (fun _ => by rw [eu55_]), (fun q => absurd rfl q)⟩)
    · refine okk_bs (v := (2 : Nat)) (by decide) ?_
      refine okk_f (by decide) ?_
      exact okk_some (⟨I, (by show (2 = 1 ∧ ¬ (0 ≤ p1.toInt ∧ p1.toInt < (u.1 0).toInt)) ∨ (2 = 2 ∧ (0 ≤ p1.toInt ∧ p1.toInt < (u.1 0).toInt) ∧ ¬ (0 ≤ p2.toInt ∧ p2.toInt ≤ 7)) ∨ (2 = 0 ∧ (0 ≤ p1.toInt ∧ p1.toInt < (u.1 0).toInt) ∧ (0 ≤ p2.toInt ∧ p2.toInt ≤ 7)); omega), (fun q => by simp at q), (fun _ => rfl)⟩)
  · refine okk_bs (v := (1 : Nat)) (by decide) ?_
    refine okk_f (by decide) ?_
    exact okk_some (⟨I, (by show (1 = 1 ∧ ¬ (0 ≤ p1.toInt ∧ p1.toInt < (u.1 0).toInt)) ∨ (1 = 2 ∧ (0 ≤ p1.toInt ∧ p1.toInt < (u.1 0).toInt) ∧ ¬ (0 ≤ p2.toInt ∧ p2.toInt ≤ 7)) ∨ (1 = 0 ∧ (0 ≤ p1.toInt ∧ p1.toInt < (u.1 0).toInt) ∧ (0 ≤ p2.toInt ∧ p2.toInt ≤ 7)); omega), (fun q => by simp at q), (fun _ => rfl)⟩)
set_option maxHeartbeats 4000000 in
theorem okl_fm_mark {g : Nat → Int32} {u : g_S} (I : IM g u) {p1 : Int32} {p2 : Int32} : okk (fm_mark u p1 p2) (fun r => IM g r ∧ (((r.1 0).toInt = 1 ∧ ¬ (0 ≤ p1.toInt ∧ p1.toInt < (u.1 1).toInt)) ∨ ((r.1 0).toInt = 2 ∧ (0 ≤ p1.toInt ∧ p1.toInt < (u.1 1).toInt) ∧ ¬ (0 ≤ p2.toInt ∧ p2.toInt ≤ 7)) ∨ ((r.1 0).toInt = 0 ∧ (0 ≤ p1.toInt ∧ p1.toInt < (u.1 1).toInt) ∧ (0 ≤ p2.toInt ∧ p2.toInt ≤ 7))) ∧ ((r.1 0).toInt = 0 → r = g_sA (g_sI u 0 (0 : Int32)) 14 p1 p2) ∧ (¬ (r.1 0).toInt = 0 → ∃ k : Int32, r = g_sI u 0 k)) := by
  unfold fm_mark
  have z1_ := IM_s I
  refine okk_isCall (fun b2_ => ?_) (fun b2_ => ?_)
  · have t3_ : ((u.1 1) - (1 : Int32)).toInt = ((u.1 1).toInt - (1 : Int)) := (oi_sub (a := (u.1 1)) (b := (1 : Int32)) rfl (by decide : (1 : Int32).toInt = 1) (by omega) (by omega))
    refine okk_t (by decide) ?_
    unfold fm_mark_14
    try have t4_ : (0 : Int32).toInt = (0 : Int) := (by decide : (0 : Int32).toInt = 0)
    try have t5_ : (7 : Int32).toInt = (7 : Int) := (by decide : (7 : Int32).toInt = 7)
    refine okk_in (fun b6_ => ?_) (fun b6_ => ?_)
    · refine okk_t (by decide) ?_
      unfold fm_mark_29
      obtain ⟨u7_, eu7_⟩ : ∃ y, y = g_sI u 0 (0 : Int32) := ⟨_, rfl⟩
      refine okk_bs (v := ((0 : Int32), u7_)) (by rw [eu7_]; exact fm_thr_0 _) ?_
      dsimp only
      have Iu7_ : IM g u7_ := by rw [eu7_]; exact IM_ix I _ (by decide)
      have h08_ : (u7_.1 0).toInt = 0 := by rw [eu7_, rdI, if_pos rfl]; decide
      have z9_ : (u7_.1 1).toInt = (u.1 1).toInt := by rw [eu7_]; rfl
      have z10_ : (u7_.1 2).toInt = (u.1 2).toInt := by rw [eu7_]; rfl
      refine okk_t (by decide) ?_
      refine okk_ck (vp_I (by omega) (by omega)) ?_
      refine okk_gl (fun u411_ eu411_ => ?_)
      have Iu411_ : IM g u411_ := by rw [eu411_]; exact IM_wx Iu7_ 14 _ _ rfl rfl (by decide)
      have z12_ : (u411_.1 0).toInt = (u7_.1 0).toInt := by rw [eu411_]; rfl
      have z13_ : (u411_.1 1).toInt = (u7_.1 1).toInt := by rw [eu411_]; rfl
      have z14_ : (u411_.1 2).toInt = (u7_.1 2).toInt := by rw [eu411_]; rfl
      exact okk_some (⟨Iu411_, (by show ((u411_.1 0).toInt = 1 ∧ ¬ (0 ≤ p1.toInt ∧ p1.toInt < (u.1 1).toInt)) ∨ ((u411_.1 0).toInt = 2 ∧ (0 ≤ p1.toInt ∧ p1.toInt < (u.1 1).toInt) ∧ ¬ (0 ≤ p2.toInt ∧ p2.toInt ≤ 7)) ∨ ((u411_.1 0).toInt = 0 ∧ (0 ≤ p1.toInt ∧ p1.toInt < (u.1 1).toInt) ∧ (0 ≤ p2.toInt ∧ p2.toInt ≤ 7)); omega), (fun _ => by rw [eu411_, eu7_]), (fun q => absurd (by omega) q)⟩)
    · refine okk_f (by decide) ?_
      unfold fm_mark_29
      obtain ⟨u15_, eu15_⟩ : ∃ y, y = g_sI u 0 (2 : Int32) := ⟨_, rfl⟩
      refine okk_bs (v := ((1 : Int32), u15_)) (by rw [eu15_]; exact fm_thr_2 _ _) ?_
      dsimp only
      have Iu15_ : IM g u15_ := by rw [eu15_]; exact IM_ix I _ (by decide)
      have h016_ : (u15_.1 0).toInt = 2 := by rw [eu15_, rdI, if_pos rfl]; decide
      have z17_ : (u15_.1 1).toInt = (u.1 1).toInt := by rw [eu15_]; rfl
      have z18_ : (u15_.1 2).toInt = (u.1 2).toInt := by rw [eu15_]; rfl
      refine okk_f (by decide) ?_
      exact okk_some (⟨Iu15_, (by show ((u15_.1 0).toInt = 1 ∧ ¬ (0 ≤ p1.toInt ∧ p1.toInt < (u.1 1).toInt)) ∨ ((u15_.1 0).toInt = 2 ∧ (0 ≤ p1.toInt ∧ p1.toInt < (u.1 1).toInt) ∧ ¬ (0 ≤ p2.toInt ∧ p2.toInt ≤ 7)) ∨ ((u15_.1 0).toInt = 0 ∧ (0 ≤ p1.toInt ∧ p1.toInt < (u.1 1).toInt) ∧ (0 ≤ p2.toInt ∧ p2.toInt ≤ 7)); omega), (fun q => absurd q (by omega)), (fun _ => ⟨_, by rw [eu15_]⟩)⟩)
  · have t19_ : ((u.1 1) - (1 : Int32)).toInt = ((u.1 1).toInt - (1 : Int)) := (oi_sub (a := (u.1 1)) (b := (1 : Int32)) rfl (by decide : (1 : Int32).toInt = 1) (by omega) (by omega))
    refine okk_f (by decide) ?_
    unfold fm_mark_14
    try have t20_ : (0 : Int32).toInt = (0 : Int) := (by decide : (0 : Int32).toInt = 0)
    try have t21_ : (7 : Int32).toInt = (7 : Int) := (by decide : (7 : Int32).toInt = 7)
    refine okk_in (fun b22_ => ?_) (fun b22_ => ?_)
    · refine okk_t (by decide) ?_
      unfold fm_mark_29
      obtain ⟨u23_, eu23_⟩ : ∃ y, y = g_sI u 0 (1 : Int32) := ⟨_, rfl⟩
      refine okk_bs (v := ((1 : Int32), u23_)) (by rw [eu23_]; exact fm_thr_1 _ _ _) ?_
      dsimp only
      have Iu23_ : IM g u23_ := by rw [eu23_]; exact IM_ix I _ (by decide)
      have h024_ : (u23_.1 0).toInt = 1 := by rw [eu23_, rdI, if_pos rfl]; decide
      have z25_ : (u23_.1 1).toInt = (u.1 1).toInt := by rw [eu23_]; rfl
      have z26_ : (u23_.1 2).toInt = (u.1 2).toInt := by rw [eu23_]; rfl
      refine okk_f (by decide) ?_
      exact okk_some (⟨Iu23_, (by show ((u23_.1 0).toInt = 1 ∧ ¬ (0 ≤ p1.toInt ∧ p1.toInt < (u.1 1).toInt)) ∨ ((u23_.1 0).toInt = 2 ∧ (0 ≤ p1.toInt ∧ p1.toInt < (u.1 1).toInt) ∧ ¬ (0 ≤ p2.toInt ∧ p2.toInt ≤ 7)) ∨ ((u23_.1 0).toInt = 0 ∧ (0 ≤ p1.toInt ∧ p1.toInt < (u.1 1).toInt) ∧ (0 ≤ p2.toInt ∧ p2.toInt ≤ 7)); omega), (fun q => absurd q (by omega)), (fun _ => ⟨_, by rw [eu23_]⟩)⟩)
    · refine okk_f (by decide) ?_
      unfold fm_mark_29
      obtain ⟨u27_, eu27_⟩ : ∃ y, y = g_sI u 0 (1 : Int32) := ⟨_, rfl⟩
      refine okk_bs (v := ((1 : Int32), u27_)) (by rw [eu27_]; exact fm_thr_1 _ _ _) ?_
      dsimp only
      have Iu27_ : IM g u27_ := by rw [eu27_]; exact IM_ix I _ (by decide)
      have h028_ : (u27_.1 0).toInt = 1 := by rw [eu27_, rdI, if_pos rfl]; decide
      have z29_ : (u27_.1 1).toInt = (u.1 1).toInt := by rw [eu27_]; rfl
      have z30_ : (u27_.1 2).toInt = (u.1 2).toInt := by rw [eu27_]; rfl
      refine okk_f (by decide) ?_
      exact okk_some (⟨Iu27_, (by show ((u27_.1 0).toInt = 1 ∧ ¬ (0 ≤ p1.toInt ∧ p1.toInt < (u.1 1).toInt)) ∨ ((u27_.1 0).toInt = 2 ∧ (0 ≤ p1.toInt ∧ p1.toInt < (u.1 1).toInt) ∧ ¬ (0 ≤ p2.toInt ∧ p2.toInt ≤ 7)) ∨ ((u27_.1 0).toInt = 0 ∧ (0 ≤ p1.toInt ∧ p1.toInt < (u.1 1).toInt) ∧ (0 ≤ p2.toInt ∧ p2.toInt ≤ 7)); omega), (fun q => absurd q (by omega)), (fun _ => ⟨_, by rw [eu27_]⟩)⟩)
set_option maxHeartbeats 4000000 in
theorem okl_fcJ_watch {g : Nat → Int32} {u : g_S} (I : IC g u) {p1 : Int32} {p2 : Int32} {p3 : Int32} {p4 : Int32} : okk (fcJ_watch u p1 p2 p3 p4) (fun r => IC g r.2 ∧ ((r.1 = 1 ∧ ¬ (0 ≤ p1.toInt ∧ p1.toInt < (u.1 1).toInt ∧ 0 ≤ p2.toInt ∧ p2.toInt ≤ 7)) ∨ (r.1 = 2 ∧ (0 ≤ p1.toInt ∧ p1.toInt < (u.1 1).toInt ∧ 0 ≤ p2.toInt ∧ p2.toInt ≤ 7) ∧ ¬ (0 ≤ p3.toInt ∧ p3.toInt < (u.2 5 p2.toNatClampNeg).toInt ∧ 0 ≤ p4.toInt ∧ p4.toInt < (u.2 5 p2.toNatClampNeg).toInt ∧ ¬ p3.toInt = p4.toInt)) ∨ (r.1 = 3 ∧ (0 ≤ p1.toInt ∧ p1.toInt < (u.1 1).toInt ∧ 0 ≤ p2.toInt ∧ p2.toInt ≤ 7) ∧ (0 ≤ p3.toInt ∧ p3.toInt < (u.2 5 p2.toNatClampNeg).toInt ∧ 0 ≤ p4.toInt ∧ p4.toInt < (u.2 5 p2.toNatClampNeg).toInt ∧ ¬ p3.toInt = p4.toInt) ∧ ¬ ((u.2 17 p1.toNatClampNeg).toInt = 0)) ∨ (r.1 = 0 ∧ (0 ≤ p1.toInt ∧ p1.toInt < (u.1 1).toInt ∧ 0 ≤ p2.toInt ∧ p2.toInt ≤ 7) ∧ (0 ≤ p3.toInt ∧ p3.toInt < (u.2 5 p2.toNatClampNeg).toInt ∧ 0 ≤ p4.toInt ∧ p4.toInt < (u.2 5 p2.toNatClampNeg).toInt ∧ ¬ p3.toInt = p4.toInt) ∧ ((u.2 17 p1.toNatClampNeg).toInt = 0))) ∧ (r.1 = 0 → r.2 = g_sA (g_sA (g_sA u 20 p1 p2) 21 p1 (if p4 < p3 then p4 else p3)) 22 p1 (if p3 < p4 then p4 else p3)) ∧ (¬ r.1 = 0 → r.2 = u)) := by
  unfold fcJ_watch
  have z1_ := IC_s I
  refine okk_isBelow (fun b2_ => ?_) (fun b2_ => ?_)
  · refine okk_f (by decide) ?_
    try have t3_ : (8 : Int32).toInt = (8 : Int) := (by decide : (8 : Int32).toInt = 8)
    refine okk_isBelow (fun b4_ => ?_) (fun b4_ => ?_)
    · refine okk_f (by decide) ?_
      unfold fcJ_watch_28
      refine okk_bs (v := (0 : Nat)) (by decide) ?_
      refine okk_t (by decide) ?_
      refine okk_ck (vp_I (by omega) (by omega)) ?_
      have r5_ := IC_r5 I p2.toNatClampNeg
      refine okk_isBelow (fun b6_ => ?_) (fun b6_ => ?_)
      · refine okk_f (by decide) ?_
        refine okk_ck (vp_I (by omega) (by omega)) ?_
        refine okk_isBelow (fun b7_ => ?_) (fun b7_ => ?_)
        · refine okk_f (by decide) ?_
          refine okk_eq (fun c8_ c8_I => ?_) (fun c8_ c8_I => ?_)
          · unfold fcJ_watch_75
            refine okk_bs (v := (2 : Nat)) (by decide) ?_
            refine okk_f (by decide) ?_
            exact okk_some (⟨I, (by show (2 = 1 ∧ ¬ (0 ≤ p1.toInt ∧ p1.toInt < (u.1 1).toInt ∧ 0 ≤ p2.toInt ∧ p2.toInt ≤ 7)) ∨ (2 = 2 ∧ (0 ≤ p1.toInt ∧ p1.toInt < (u.1 1).toInt ∧ 0 ≤ p2.toInt ∧ p2.toInt ≤ 7) ∧ ¬ (0 ≤ p3.toInt ∧ p3.toInt < (u.2 5 p2.toNatClampNeg).toInt ∧ 0 ≤ p4.toInt ∧ p4.toInt < (u.2 5 p2.toNatClampNeg).toInt ∧ ¬ p3.toInt = p4.toInt)) ∨ (2 = 3 ∧ (0 ≤ p1.toInt ∧ p1.toInt < (u.1 1).toInt ∧ 0 ≤ p2.toInt ∧ p2.toInt ≤ 7) ∧ (0 ≤ p3.toInt ∧ p3.toInt < (u.2 5 p2.toNatClampNeg).toInt ∧ 0 ≤ p4.toInt ∧ p4.toInt < (u.2 5 p2.toNatClampNeg).toInt ∧ ¬ p3.toInt = p4.toInt) ∧ ¬ ((u.2 17 p1.toNatClampNeg).toInt = 0)) ∨ (2 = 0 ∧ (0 ≤ p1.toInt ∧ p1.toInt < (u.1 1).toInt ∧ 0 ≤ p2.toInt ∧ p2.toInt ≤ 7) ∧ (0 ≤ p3.toInt ∧ p3.toInt < (u.2 5 p2.toNatClampNeg).toInt ∧ 0 ≤ p4.toInt ∧ p4.toInt < (u.2 5 p2.toNatClampNeg).toInt ∧ ¬ p3.toInt = p4.toInt) ∧ ((u.2 17 p1.toNatClampNeg).toInt = 0)); omega), (fun q => by simp at q), (fun _ => rfl)⟩)
          · unfold fcJ_watch_75
            refine okk_bs (v := (0 : Nat)) (by decide) ?_
            refine okk_t (by decide) ?_
            refine okk_ck (vp_I (by omega) (by omega)) ?_
            try have t10_ : (0 : Int32).toInt = (0 : Int) := (by decide : (0 : Int32).toInt = 0)
            refine okk_ne (fun c9_ c9_I => ?_) (fun c9_ c9_I => ?_)
            · unfold fcJ_watch_95
              refine okk_bs (v := (3 : Nat)) (by decide) ?_
              refine okk_f (by decide) ?_
              exact okk_some (⟨I, (by show (3 = 1 ∧ ¬ (0 ≤ p1.toInt ∧ p1.toInt < (u.1 1).toInt ∧ 0 ≤ p2.toInt ∧ p2.toInt ≤ 7)) ∨ (3 = 2 ∧ (0 ≤ p1.toInt ∧ p1.toInt < (u.1 1).toInt ∧ 0 ≤ p2.toInt ∧ p2.toInt ≤ 7) ∧ ¬ (0 ≤ p3.toInt ∧ p3.toInt < (u.2 5 p2.toNatClampNeg).toInt ∧ 0 ≤ p4.toInt ∧ p4.toInt < (u.2 5 p2.toNatClampNeg).toInt ∧ ¬ p3.toInt = p4.toInt)) ∨ (3 = 3 ∧ (0 ≤ p1.toInt ∧ p1.toInt < (u.1 1).toInt ∧ 0 ≤ p2.toInt ∧ p2.toInt ≤ 7) ∧ (0 ≤ p3.toInt ∧ p3.toInt < (u.2 5 p2.toNatClampNeg).toInt ∧ 0 ≤ p4.toInt ∧ p4.toInt < (u.2 5 p2.toNatClampNeg).toInt ∧ ¬ p3.toInt = p4.toInt) ∧ ¬ ((u.2 17 p1.toNatClampNeg).toInt = 0)) ∨ (3 = 0 ∧ (0 ≤ p1.toInt ∧ p1.toInt < (u.1 1).toInt ∧ 0 ≤ p2.toInt ∧ p2.toInt ≤ 7) ∧ (0 ≤ p3.toInt ∧ p3.toInt < (u.2 5 p2.toNatClampNeg).toInt ∧ 0 ≤ p4.toInt ∧ p4.toInt < (u.2 5 p2.toNatClampNeg).toInt ∧ ¬ p3.toInt = p4.toInt) ∧ ((u.2 17 p1.toNatClampNeg).toInt = 0)); omega), (fun q => by simp at q), (fun _ => rfl)⟩)
            · unfold fcJ_watch_95
              refine okk_bs (v := (0 : Nat)) (by decide) ?_
              refine okk_t (by decide) ?_
              refine okk_ck (vp_I (by omega) (by omega)) ?_
              refine okk_gl (fun u611_ eu611_ => ?_)
              have Iu611_ : IC g u611_ := by rw [eu611_]; exact IC_v20 I _ _ (by omega) (by omega)
              have z12_ : (u611_.1 0).toInt = (u.1 0).toInt := by rw [eu611_]; rfl
              have z13_ : (u611_.1 1).toInt = (u.1 1).toInt := by rw [eu611_]; rfl
              refine okk_ck (vp_I (by omega) (by omega)) ?_
              have t15_ : (if p4 < p3 then p4 else p3).toInt = p4.toInt ∨ (if p4 < p3 then p4 else p3).toInt = p3.toInt := oi_ite
              refine okk_gl (fun u714_ eu714_ => ?_)
              have Iu714_ : IC g u714_ := by rw [eu714_]; exact IC_v21 Iu611_ _ _ (by omega) (by omega)
              have z16_ : (u714_.1 0).toInt = (u611_.1 0).toInt := by rw [eu714_]; rfl
              have z17_ : (u714_.1 1).toInt = (u611_.1 1).toInt := by rw [eu714_]; rfl
              refine okk_ck (vp_I (by omega) (by omega)) ?_
              have t19_ : (if p3 < p4 then p4 else p3).toInt = p4.toInt ∨ (if p3 < p4 then p4 else p3).toInt = p3.toInt := oi_ite
              refine okk_gl (fun u818_ eu818_ => ?_)
              have Iu818_ : IC g u818_ := by rw [eu818_]; exact IC_v22 Iu714_ _ _ (by omega) (by omega)
              have z20_ : (u818_.1 0).toInt = (u714_.1 0).toInt := by rw [eu818_]; rfl
              have z21_ : (u818_.1 1).toInt = (u714_.1 1).toInt := by rw [eu818_]; rfl
              exact okk_some (⟨Iu818_, (by show (0 = 1 ∧ ¬ (0 ≤ p1.toInt ∧ p1.toInt < (u.1 1).toInt ∧ 0 ≤ p2.toInt ∧ p2.toInt ≤ 7)) ∨ (0 = 2 ∧ (0 ≤ p1.toInt ∧ p1.toInt < (u.1 1).toInt ∧ 0 ≤ p2.toInt ∧ p2.toInt ≤ 7) ∧ ¬ (0 ≤ p3.toInt ∧ p3.toInt < (u.2 5 p2.toNatClampNeg).toInt ∧ 0 ≤ p4.toInt ∧ p4.toInt < (u.2 5 p2.toNatClampNeg).toInt ∧ ¬ p3.toInt = p4.toInt)) ∨ (0 = 3 ∧ (0 ≤ p1.toInt ∧ p1.toInt < (u.1 1).toInt ∧ 0 ≤ p2.toInt ∧ p2.toInt ≤ 7) ∧ (0 ≤ p3.toInt ∧ p3.toInt < (u.2 5 p2.toNatClampNeg).toInt ∧ 0 ≤ p4.toInt ∧ p4.toInt < (u.2 5 p2.toNatClampNeg).toInt ∧ ¬ p3.toInt = p4.toInt) ∧ ¬ ((u.2 17 p1.toNatClampNeg).toInt = 0)) ∨ (0 = 0 ∧ (0 ≤ p1.toInt ∧ p1.toInt < (u.1 1).toInt ∧ 0 ≤ p2.toInt ∧ p2.toInt ≤ 7) ∧ (0 ≤ p3.toInt ∧ p3.toInt < (u.2 5 p2.toNatClampNeg).toInt ∧ 0 ≤ p4.toInt ∧ p4.toInt < (u.2 5 p2.toNatClampNeg).toInt ∧ ¬ p3.toInt = p4.toInt) ∧ ((u.2 17 p1.toNatClampNeg).toInt = 0)); omega), (fun _ => by rw [eu818_, eu714_, eu611_]), (fun q => absurd rfl q)⟩)
        · refine okk_t (by decide) ?_
          unfold fcJ_watch_75
          refine okk_bs (v := (2 : Nat)) (by decide) ?_
          refine okk_f (by decide) ?_
          exact okk_some (⟨I, (by show (2 = 1 ∧ ¬ (0 ≤ p1.toInt ∧ p1.toInt < (u.1 1).toInt ∧ 0 ≤ p2.toInt ∧ p2.toInt ≤ 7)) ∨ (2 = 2 ∧ (0 ≤ p1.toInt ∧ p1.toInt < (u.1 1).toInt ∧ 0 ≤ p2.toInt ∧ p2.toInt ≤ 7) ∧ ¬ (0 ≤ p3.toInt ∧ p3.toInt < (u.2 5 p2.toNatClampNeg).toInt ∧ 0 ≤ p4.toInt ∧ p4.toInt < (u.2 5 p2.toNatClampNeg).toInt ∧ ¬ p3.toInt = p4.toInt)) ∨ (2 = 3 ∧ (0 ≤ p1.toInt ∧ p1.toInt < (u.1 1).toInt ∧ 0 ≤ p2.toInt ∧ p2.toInt ≤ 7) ∧ (0 ≤ p3.toInt ∧ p3.toInt < (u.2 5 p2.toNatClampNeg).toInt ∧ 0 ≤ p4.toInt ∧ p4.toInt < (u.2 5 p2.toNatClampNeg).toInt ∧ ¬ p3.toInt = p4.toInt) ∧ ¬ ((u.2 17 p1.toNatClampNeg).toInt = 0)) ∨ (2 = 0 ∧ (0 ≤ p1.toInt ∧ p1.toInt < (u.1 1).toInt ∧ 0 ≤ p2.toInt ∧ p2.toInt ≤ 7) ∧ (0 ≤ p3.toInt ∧ p3.toInt < (u.2 5 p2.toNatClampNeg).toInt ∧ 0 ≤ p4.toInt ∧ p4.toInt < (u.2 5 p2.toNatClampNeg).toInt ∧ ¬ p3.toInt = p4.toInt) ∧ ((u.2 17 p1.toNatClampNeg).toInt = 0)); omega), (fun q => by simp at q), (fun _ => rfl)⟩)
      · refine okk_t (by decide) ?_
        unfold fcJ_watch_75
        refine okk_bs (v := (2 : Nat)) (by decide) ?_
        refine okk_f (by decide) ?_
        exact okk_some (⟨I, (by show (2 = 1 ∧ ¬ (0 ≤ p1.toInt ∧ p1.toInt < (u.1 1).toInt ∧ 0 ≤ p2.toInt ∧ p2.toInt ≤ 7)) ∨ (2 = 2 ∧ (0 ≤ p1.toInt ∧ p1.toInt < (u.1 1).toInt ∧ 0 ≤ p2.toInt ∧ p2.toInt ≤ 7) ∧ ¬ (0 ≤ p3.toInt ∧ p3.toInt < (u.2 5 p2.toNatClampNeg).toInt ∧ 0 ≤ p4.toInt ∧ p4.toInt < (u.2 5 p2.toNatClampNeg).toInt ∧ ¬ p3.toInt = p4.toInt)) ∨ (2 = 3 ∧ (0 ≤ p1.toInt ∧ p1.toInt < (u.1 1).toInt ∧ 0 ≤ p2.toInt ∧ p2.toInt ≤ 7) ∧ (0 ≤ p3.toInt ∧ p3.toInt < (u.2 5 p2.toNatClampNeg).toInt ∧ 0 ≤ p4.toInt ∧ p4.toInt < (u.2 5 p2.toNatClampNeg).toInt ∧ ¬ p3.toInt = p4.toInt) ∧ ¬ ((u.2 17 p1.toNatClampNeg).toInt = 0)) ∨ (2 = 0 ∧ (0 ≤ p1.toInt ∧ p1.toInt < (u.1 1).toInt ∧ 0 ≤ p2.toInt ∧ p2.toInt ≤ 7) ∧ (0 ≤ p3.toInt ∧ p3.toInt < (u.2 5 p2.toNatClampNeg).toInt ∧ 0 ≤ p4.toInt ∧ p4.toInt < (u.2 5 p2.toNatClampNeg).toInt ∧ ¬ p3.toInt = p4.toInt) ∧ ((u.2 17 p1.toNatClampNeg).toInt = 0)); omega), (fun q => by simp at q), (fun _ => rfl)⟩)
    · refine okk_t (by decide) ?_
      unfold fcJ_watch_28
      refine okk_bs (v := (1 : Nat)) (by decide) ?_
      refine okk_f (by decide) ?_
      exact okk_some (⟨I, (by show (1 = 1 ∧ ¬ (0 ≤ p1.toInt ∧ p1.toInt < (u.1 1).toInt ∧ 0 ≤ p2.toInt ∧ p2.toInt ≤ 7)) ∨ (1 = 2 ∧ (0 ≤ p1.toInt ∧ p1.toInt < (u.1 1).toInt ∧ 0 ≤ p2.toInt ∧ p2.toInt ≤ 7) ∧ ¬ (0 ≤ p3.toInt ∧ p3.toInt < (u.2 5 p2.toNatClampNeg).toInt ∧ 0 ≤ p4.toInt ∧ p4.toInt < (u.2 5 p2.toNatClampNeg).toInt ∧ ¬ p3.toInt = p4.toInt)) ∨ (1 = 3 ∧ (0 ≤ p1.toInt ∧ p1.toInt < (u.1 1).toInt ∧ 0 ≤ p2.toInt ∧ p2.toInt ≤ 7) ∧ (0 ≤ p3.toInt ∧ p3.toInt < (u.2 5 p2.toNatClampNeg).toInt ∧ 0 ≤ p4.toInt ∧ p4.toInt < (u.2 5 p2.toNatClampNeg).toInt ∧ ¬ p3.toInt = p4.toInt) ∧ ¬ ((u.2 17 p1.toNatClampNeg).toInt = 0)) ∨ (1 = 0 ∧ (0 ≤ p1.toInt ∧ p1.toInt < (u.1 1).toInt ∧ 0 ≤ p2.toInt ∧ p2.toInt ≤ 7) ∧ (0 ≤ p3.toInt ∧ p3.toInt < (u.2 5 p2.toNatClampNeg).toInt ∧ 0 ≤ p4.toInt ∧ p4.toInt < (u.2 5 p2.toNatClampNeg).toInt ∧ ¬ p3.toInt = p4.toInt) ∧ ((u.2 17 p1.toNatClampNeg).toInt = 0)); omega), (fun q => by simp at q), (fun _ => rfl)⟩)
  · refine okk_t (by decide) ?_
    unfold fcJ_watch_28
    refine okk_bs (v := (1 : Nat)) (by decide) ?_
    refine okk_f (by decide) ?_
    exact okk_some (⟨I, (by show (1 = 1 ∧ ¬ (0 ≤ p1.toInt ∧ p1.toInt < (u.1 1).toInt ∧ 0 ≤ p2.toInt ∧ p2.toInt ≤ 7)) ∨ (1 = 2 ∧ (0 ≤ p1.toInt ∧ p1.toInt < (u.1 1).toInt ∧ 0 ≤ p2.toInt ∧ p2.toInt ≤ 7) ∧ ¬ (0 ≤ p3.toInt ∧ p3.toInt < (u.2 5 p2.toNatClampNeg).toInt ∧ 0 ≤ p4.toInt ∧ p4.toInt < (u.2 5 p2.toNatClampNeg).toInt ∧ ¬ p3.toInt = p4.toInt)) ∨ (1 = 3 ∧ (0 ≤ p1.toInt ∧ p1.toInt < (u.1 1).toInt ∧ 0 ≤ p2.toInt ∧ p2.toInt ≤ 7) ∧ (0 ≤ p3.toInt ∧ p3.toInt < (u.2 5 p2.toNatClampNeg).toInt ∧ 0 ≤ p4.toInt ∧ p4.toInt < (u.2 5 p2.toNatClampNeg).toInt ∧ ¬ p3.toInt = p4.toInt) ∧ ¬ ((u.2 17 p1.toNatClampNeg).toInt = 0)) ∨ (1 = 0 ∧ (0 ≤ p1.toInt ∧ p1.toInt < (u.1 1).toInt ∧ 0 ≤ p2.toInt ∧ p2.toInt ≤ 7) ∧ (0 ≤ p3.toInt ∧ p3.toInt < (u.2 5 p2.toNatClampNeg).toInt ∧ 0 ≤ p4.toInt ∧ p4.toInt < (u.2 5 p2.toNatClampNeg).toInt ∧ ¬ p3.toInt = p4.toInt) ∧ ((u.2 17 p1.toNatClampNeg).toInt = 0)); omega), (fun q => by simp at q), (fun _ => rfl)⟩)
set_option maxHeartbeats 4000000 in
theorem okl_fm_watch {g : Nat → Int32} {u : g_S} (I : IM g u) {p1 : Int32} {p2 : Int32} {p3 : Int32} {p4 : Int32} : okk (fm_watch u p1 p2 p3 p4) (fun r => IM g r ∧ (((r.1 0).toInt = 1 ∧ ¬ (0 ≤ p1.toInt ∧ p1.toInt < (u.1 2).toInt ∧ 0 ≤ p2.toInt ∧ p2.toInt ≤ 7)) ∨ ((r.1 0).toInt = 2 ∧ (0 ≤ p1.toInt ∧ p1.toInt < (u.1 2).toInt ∧ 0 ≤ p2.toInt ∧ p2.toInt ≤ 7) ∧ ¬ (0 ≤ p3.toInt ∧ p3.toInt < (u.2 5 p2.toNatClampNeg).toInt ∧ 0 ≤ p4.toInt ∧ p4.toInt < (u.2 5 p2.toNatClampNeg).toInt ∧ ¬ p3.toInt = p4.toInt)) ∨ ((r.1 0).toInt = 3 ∧ (0 ≤ p1.toInt ∧ p1.toInt < (u.1 2).toInt ∧ 0 ≤ p2.toInt ∧ p2.toInt ≤ 7) ∧ (0 ≤ p3.toInt ∧ p3.toInt < (u.2 5 p2.toNatClampNeg).toInt ∧ 0 ≤ p4.toInt ∧ p4.toInt < (u.2 5 p2.toNatClampNeg).toInt ∧ ¬ p3.toInt = p4.toInt) ∧ ¬ ((u.2 16 p1.toNatClampNeg).toInt = 0)) ∨ ((r.1 0).toInt = 0 ∧ (0 ≤ p1.toInt ∧ p1.toInt < (u.1 2).toInt ∧ 0 ≤ p2.toInt ∧ p2.toInt ≤ 7) ∧ (0 ≤ p3.toInt ∧ p3.toInt < (u.2 5 p2.toNatClampNeg).toInt ∧ 0 ≤ p4.toInt ∧ p4.toInt < (u.2 5 p2.toNatClampNeg).toInt ∧ ¬ p3.toInt = p4.toInt) ∧ ((u.2 16 p1.toNatClampNeg).toInt = 0))) ∧ ((r.1 0).toInt = 0 → r = g_sA (g_sA (g_sA (g_sI u 0 (0 : Int32)) 17 p1 p2) 18 p1 p3) 19 p1 p4) ∧ (¬ (r.1 0).toInt = 0 → ∃ k : Int32, r = g_sI u 0 k)) := by
  unfold fm_watch
  have z1_ := IM_s I
  refine okk_isEvent (fun b2_ => ?_) (fun b2_ => ?_)
  · have t3_ : ((u.1 2) - (1 : Int32)).toInt = ((u.1 2).toInt - (1 : Int)) := (oi_sub (a := (u.1 2)) (b := (1 : Int32)) rfl (by decide : (1 : Int32).toInt = 1) (by omega) (by omega))
    refine okk_f (by decide) ?_
    refine okk_isRoad (fun b4_ => ?_) (fun b4_ => ?_)
    · refine okk_f (by decide) ?_
      unfold fm_watch_20
      refine okk_f (by decide) ?_
      refine okk_ck (vp_I (by omega) (by omega)) ?_
      try have t5_ : (0 : Int32).toInt = (0 : Int) := (by decide : (0 : Int32).toInt = 0)
      have r6_ := IM_r5 I p2.toNatClampNeg
      try have t7_ : ((u.2 5 p2.toNatClampNeg) - (1 : Int32)).toInt = ((u.2 5 p2.toNatClampNeg).toInt - (1 : Int)) := (oi_sub (a := (u.2 5 p2.toNatClampNeg)) (b := (1 : Int32)) rfl (by decide : (1 : Int32).toInt = 1) (by omega) (by omega))
      refine okk_in (fun b8_ => ?_) (fun b8_ => ?_)
      · refine okk_f (by decide) ?_
        refine okk_ck (vp_I (by omega) (by omega)) ?_
        refine okk_in (fun b9_ => ?_) (fun b9_ => ?_)
        · refine okk_f (by decide) ?_
          refine okk_eq (fun c10_ c10_I => ?_) (fun c10_ c10_I => ?_)
          · unfold fm_watch_71
            refine okk_t (by decide) ?_
            refine okk_f (by decide) ?_
            unfold fm_watch_94
            refine okk_f (by decide) ?_
            refine okk_ck (vp_I (by omega) (by omega)) ?_
            refine okk_eq (fun c11_ c11_I => ?_) (fun c11_ c11_I => ?_)
            · unfold fm_watch_113
              obtain ⟨u12_, eu12_⟩ : ∃ y, y = g_sI u 0 (2 : Int32) := ⟨_, rfl⟩
              refine okk_bs (v := ((1 : Int32), u12_)) (by rw [eu12_]; exact fm_thr_2 _ _) ?_
              dsimp only
              have Iu12_ : IM g u12_ := by rw [eu12_]; exact IM_ix I _ (by decide)
              have h013_ : (u12_.1 0).toInt = 2 := by rw [eu12_, rdI, if_pos rfl]; decide
              have z14_ : (u12_.1 1).toInt = (u.1 1).toInt := by rw [eu12_]; rfl
              have z15_ : (u12_.1 2).toInt = (u.1 2).toInt := by rw [eu12_]; rfl
              refine okk_f (by decide) ?_
              exact okk_some (⟨Iu12_, (by show ((u12_.1 0).toInt = 1 ∧ ¬ (0 ≤ p1.toInt ∧ p1.toInt < (u.1 2).toInt ∧ 0 ≤ p2.toInt ∧ p2.toInt ≤ 7)) ∨ ((u12_.1 0).toInt = 2 ∧ (0 ≤ p1.toInt ∧ p1.toInt < (u.1 2).toInt ∧ 0 ≤ p2.toInt ∧ p2.toInt ≤ 7) ∧ ¬ (0 ≤ p3.toInt ∧ p3.toInt < (u.2 5 p2.toNatClampNeg).toInt ∧ 0 ≤ p4.toInt ∧ p4.toInt < (u.2 5 p2.toNatClampNeg).toInt ∧ ¬ p3.toInt = p4.toInt)) ∨ ((u12_.1 0).toInt = 3 ∧ (0 ≤ p1.toInt ∧ p1.toInt < (u.1 2).toInt ∧ 0 ≤ p2.toInt ∧ p2.toInt ≤ 7) ∧ (0 ≤ p3.toInt ∧ p3.toInt < (u.2 5 p2.toNatClampNeg).toInt ∧ 0 ≤ p4.toInt ∧ p4.toInt < (u.2 5 p2.toNatClampNeg).toInt ∧ ¬ p3.toInt = p4.toInt) ∧ ¬ ((u.2 16 p1.toNatClampNeg).toInt = 0)) ∨ ((u12_.1 0).toInt = 0 ∧ (0 ≤ p1.toInt ∧ p1.toInt < (u.1 2).toInt ∧ 0 ≤ p2.toInt ∧ p2.toInt ≤ 7) ∧ (0 ≤ p3.toInt ∧ p3.toInt < (u.2 5 p2.toNatClampNeg).toInt ∧ 0 ≤ p4.toInt ∧ p4.toInt < (u.2 5 p2.toNatClampNeg).toInt ∧ ¬ p3.toInt = p4.toInt) ∧ ((u.2 16 p1.toNatClampNeg).toInt = 0)); omega), (fun q => absurd q (by omega)), (fun _ => ⟨_, by rw [eu12_]⟩)⟩)
            · unfold fm_watch_113
              obtain ⟨u16_, eu16_⟩ : ∃ y, y = g_sI u 0 (2 : Int32) := ⟨_, rfl⟩
              refine okk_bs (v := ((1 : Int32), u16_)) (by rw [eu16_]; exact fm_thr_2 _ _) ?_
              dsimp only
              have Iu16_ : IM g u16_ := by rw [eu16_]; exact IM_ix I _ (by decide)
              have h017_ : (u16_.1 0).toInt = 2 := by rw [eu16_, rdI, if_pos rfl]; decide
              have z18_ : (u16_.1 1).toInt = (u.1 1).toInt := by rw [eu16_]; rfl
              have z19_ : (u16_.1 2).toInt = (u.1 2).toInt := by rw [eu16_]; rfl
              refine okk_f (by decide) ?_
              exact okk_some (⟨Iu16_, (by show ((u16_.1 0).toInt = 1 ∧ ¬ (0 ≤ p1.toInt ∧ p1.toInt < (u.1 2).toInt ∧ 0 ≤ p2.toInt ∧ p2.toInt ≤ 7)) ∨ ((u16_.1 0).toInt = 2 ∧ (0 ≤ p1.toInt ∧ p1.toInt < (u.1 2).toInt ∧ 0 ≤ p2.toInt ∧ p2.toInt ≤ 7) ∧ ¬ (0 ≤ p3.toInt ∧ p3.toInt < (u.2 5 p2.toNatClampNeg).toInt ∧ 0 ≤ p4.toInt ∧ p4.toInt < (u.2 5 p2.toNatClampNeg).toInt ∧ ¬ p3.toInt = p4.toInt)) ∨ ((u16_.1 0).toInt = 3 ∧ (0 ≤ p1.toInt ∧ p1.toInt < (u.1 2).toInt ∧ 0 ≤ p2.toInt ∧ p2.toInt ≤ 7) ∧ (0 ≤ p3.toInt ∧ p3.toInt < (u.2 5 p2.toNatClampNeg).toInt ∧ 0 ≤ p4.toInt ∧ p4.toInt < (u.2 5 p2.toNatClampNeg).toInt ∧ ¬ p3.toInt = p4.toInt) ∧ ¬ ((u.2 16 p1.toNatClampNeg).toInt = 0)) ∨ ((u16_.1 0).toInt = 0 ∧ (0 ≤ p1.toInt ∧ p1.toInt < (u.1 2).toInt ∧ 0 ≤ p2.toInt ∧ p2.toInt ≤ 7) ∧ (0 ≤ p3.toInt ∧ p3.toInt < (u.2 5 p2.toNatClampNeg).toInt ∧ 0 ≤ p4.toInt ∧ p4.toInt < (u.2 5 p2.toNatClampNeg).toInt ∧ ¬ p3.toInt = p4.toInt) ∧ ((u.2 16 p1.toNatClampNeg).toInt = 0)); omega), (fun q => absurd q (by omega)), (fun _ => ⟨_, by rw [eu16_]⟩)⟩)
          · unfold fm_watch_71
            refine okk_t (by decide) ?_
            refine okk_t (by decide) ?_
            unfold fm_watch_94
            refine okk_f (by decide) ?_
            refine okk_ck (vp_I (by omega) (by omega)) ?_
            refine okk_eq (fun c20_ c20_I => ?_) (fun c20_ c20_I => ?_)
            · unfold fm_watch_113
              obtain ⟨u21_, eu21_⟩ : ∃ y, y = g_sI u 0 (0 : Int32) := ⟨_, rfl⟩
              refine okk_bs (v := ((0 : Int32), u21_)) (by rw [eu21_]; exact fm_thr_0 _) ?_
              dsimp only
              have Iu21_ : IM g u21_ := by rw [eu21_]; exact IM_ix I _ (by decide)
              have h022_ : (u21_.1 0).toInt = 0 := by rw [eu21_, rdI, if_pos rfl]; decide
              have z23_ : (u21_.1 1).toInt = (u.1 1).toInt := by rw [eu21_]; rfl
              have z24_ : (u21_.1 2).toInt = (u.1 2).toInt := by rw [eu21_]; rfl
              refine okk_t (by decide) ?_
              refine okk_ck (vp_I (by omega) (by omega)) ?_
              refine okk_gl (fun u325_ eu325_ => ?_)
              have Iu325_ : IM g u325_ := by rw [eu325_]; exact IM_v17 Iu21_ _ _ (by omega) (by omega)
              have z26_ : (u325_.1 0).toInt = (u21_.1 0).toInt := by rw [eu325_]; rfl
              have z27_ : (u325_.1 1).toInt = (u21_.1 1).toInt := by rw [eu325_]; rfl
              have z28_ : (u325_.1 2).toInt = (u21_.1 2).toInt := by rw [eu325_]; rfl
              refine okk_ck (vp_I (by omega) (by omega)) ?_
              refine okk_gl (fun u429_ eu429_ => ?_)
              have Iu429_ : IM g u429_ := by rw [eu429_]; exact IM_v18 Iu325_ _ _ (by omega) (by omega)
              have z30_ : (u429_.1 0).toInt = (u325_.1 0).toInt := by rw [eu429_]; rfl
              have z31_ : (u429_.1 1).toInt = (u325_.1 1).toInt := by rw [eu429_]; rfl
              have z32_ : (u429_.1 2).toInt = (u325_.1 2).toInt := by rw [eu429_]; rfl
              refine okk_ck (vp_I (by omega) (by omega)) ?_
              refine okk_gl (fun u533_ eu533_ => ?_)
              have Iu533_ : IM g u533_ := by rw [eu533_]; exact IM_v19 Iu429_ _ _ (by omega) (by omega)
              have z34_ : (u533_.1 0).toInt = (u429_.1 0).toInt := by rw [eu533_]; rfl
              have z35_ : (u533_.1 1).toInt = (u429_.1 1).toInt := by rw [eu533_]; rfl
              have z36_ : (u533_.1 2).toInt = (u429_.1 2).toInt := by rw [eu533_]; rfl
              exact okk_some (⟨Iu533_, (by show ((u533_.1 0).toInt = 1 ∧ ¬ (0 ≤ p1.toInt ∧ p1.toInt < (u.1 2).toInt ∧ 0 ≤ p2.toInt ∧ p2.toInt ≤ 7)) ∨ ((u533_.1 0).toInt = 2 ∧ (0 ≤ p1.toInt ∧ p1.toInt < (u.1 2).toInt ∧ 0 ≤ p2.toInt ∧ p2.toInt ≤ 7) ∧ ¬ (0 ≤ p3.toInt ∧ p3.toInt < (u.2 5 p2.toNatClampNeg).toInt ∧ 0 ≤ p4.toInt ∧ p4.toInt < (u.2 5 p2.toNatClampNeg).toInt ∧ ¬ p3.toInt = p4.toInt)) ∨ ((u533_.1 0).toInt = 3 ∧ (0 ≤ p1.toInt ∧ p1.toInt < (u.1 2).toInt ∧ 0 ≤ p2.toInt ∧ p2.toInt ≤ 7) ∧ (0 ≤ p3.toInt ∧ p3.toInt < (u.2 5 p2.toNatClampNeg).toInt ∧ 0 ≤ p4.toInt ∧ p4.toInt < (u.2 5 p2.toNatClampNeg).toInt ∧ ¬ p3.toInt = p4.toInt) ∧ ¬ ((u.2 16 p1.toNatClampNeg).toInt = 0)) ∨ ((u533_.1 0).toInt = 0 ∧ (0 ≤ p1.toInt ∧ p1.toInt < (u.1 2).toInt ∧ 0 ≤ p2.toInt ∧ p2.toInt ≤ 7) ∧ (0 ≤ p3.toInt ∧ p3.toInt < (u.2 5 p2.toNatClampNeg).toInt ∧ 0 ≤ p4.toInt ∧ p4.toInt < (u.2 5 p2.toNatClampNeg).toInt ∧ ¬ p3.toInt = p4.toInt) ∧ ((u.2 16 p1.toNatClampNeg).toInt = 0)); omega), (fun _ => by rw [eu533_, eu429_, eu325_, eu21_]), (fun q => absurd (by omega) q)⟩)
            · unfold fm_watch_113
              obtain ⟨u37_, eu37_⟩ : ∃ y, y = g_sI u 0 (3 : Int32) := ⟨_, rfl⟩
              refine okk_bs (v := ((1 : Int32), u37_)) (by rw [eu37_]; exact fm_thr_3 _) ?_
              dsimp only
              have Iu37_ : IM g u37_ := by rw [eu37_]; exact IM_ix I _ (by decide)
              have h038_ : (u37_.1 0).toInt = 3 := by rw [eu37_, rdI, if_pos rfl]; decide
              have z39_ : (u37_.1 1).toInt = (u.1 1).toInt := by rw [eu37_]; rfl
              have z40_ : (u37_.1 2).toInt = (u.1 2).toInt := by rw [eu37_]; rfl
              refine okk_f (by decide) ?_
              exact okk_some (⟨Iu37_, (by show ((u37_.1 0).toInt = 1 ∧ ¬ (0 ≤ p1.toInt ∧ p1.toInt < (u.1 2).toInt ∧ 0 ≤ p2.toInt ∧ p2.toInt ≤ 7)) ∨ ((u37_.1 0).toInt = 2 ∧ (0 ≤ p1.toInt ∧ p1.toInt < (u.1 2).toInt ∧ 0 ≤ p2.toInt ∧ p2.toInt ≤ 7) ∧ ¬ (0 ≤ p3.toInt ∧ p3.toInt < (u.2 5 p2.toNatClampNeg).toInt ∧ 0 ≤ p4.toInt ∧ p4.toInt < (u.2 5 p2.toNatClampNeg).toInt ∧ ¬ p3.toInt = p4.toInt)) ∨ ((u37_.1 0).toInt = 3 ∧ (0 ≤ p1.toInt ∧ p1.toInt < (u.1 2).toInt ∧ 0 ≤ p2.toInt ∧ p2.toInt ≤ 7) ∧ (0 ≤ p3.toInt ∧ p3.toInt < (u.2 5 p2.toNatClampNeg).toInt ∧ 0 ≤ p4.toInt ∧ p4.toInt < (u.2 5 p2.toNatClampNeg).toInt ∧ ¬ p3.toInt = p4.toInt) ∧ ¬ ((u.2 16 p1.toNatClampNeg).toInt = 0)) ∨ ((u37_.1 0).toInt = 0 ∧ (0 ≤ p1.toInt ∧ p1.toInt < (u.1 2).toInt ∧ 0 ≤ p2.toInt ∧ p2.toInt ≤ 7) ∧ (0 ≤ p3.toInt ∧ p3.toInt < (u.2 5 p2.toNatClampNeg).toInt ∧ 0 ≤ p4.toInt ∧ p4.toInt < (u.2 5 p2.toNatClampNeg).toInt ∧ ¬ p3.toInt = p4.toInt) ∧ ((u.2 16 p1.toNatClampNeg).toInt = 0)); omega), (fun q => absurd q (by omega)), (fun _ => ⟨_, by rw [eu37_]⟩)⟩)
        · refine okk_t (by decide) ?_
          unfold fm_watch_71
          refine okk_t (by decide) ?_
          refine okk_f (by decide) ?_
          unfold fm_watch_94
          refine okk_f (by decide) ?_
          refine okk_ck (vp_I (by omega) (by omega)) ?_
          refine okk_eq (fun c41_ c41_I => ?_) (fun c41_ c41_I => ?_)
          · unfold fm_watch_113
            obtain ⟨u42_, eu42_⟩ : ∃ y, y = g_sI u 0 (2 : Int32) := ⟨_, rfl⟩
            refine okk_bs (v := ((1 : Int32), u42_)) (by rw [eu42_]; exact fm_thr_2 _ _) ?_
            dsimp only
            have Iu42_ : IM g u42_ := by rw [eu42_]; exact IM_ix I _ (by decide)
            have h043_ : (u42_.1 0).toInt = 2 := by rw [eu42_, rdI, if_pos rfl]; decide
            have z44_ : (u42_.1 1).toInt = (u.1 1).toInt := by rw [eu42_]; rfl
            have z45_ : (u42_.1 2).toInt = (u.1 2).toInt := by rw [eu42_]; rfl
            refine okk_f (by decide) ?_
            exact okk_some (⟨Iu42_, (by show ((u42_.1 0).toInt = 1 ∧ ¬ (0 ≤ p1.toInt ∧ p1.toInt < (u.1 2).toInt ∧ 0 ≤ p2.toInt ∧ p2.toInt ≤ 7)) ∨ ((u42_.1 0).toInt = 2 ∧ (0 ≤ p1.toInt ∧ p1.toInt < (u.1 2).toInt ∧ 0 ≤ p2.toInt ∧ p2.toInt ≤ 7) ∧ ¬ (0 ≤ p3.toInt ∧ p3.toInt < (u.2 5 p2.toNatClampNeg).toInt ∧ 0 ≤ p4.toInt ∧ p4.toInt < (u.2 5 p2.toNatClampNeg).toInt ∧ ¬ p3.toInt = p4.toInt)) ∨ ((u42_.1 0).toInt = 3 ∧ (0 ≤ p1.toInt ∧ p1.toInt < (u.1 2).toInt ∧ 0 ≤ p2.toInt ∧ p2.toInt ≤ 7) ∧ (0 ≤ p3.toInt ∧ p3.toInt < (u.2 5 p2.toNatClampNeg).toInt ∧ 0 ≤ p4.toInt ∧ p4.toInt < (u.2 5 p2.toNatClampNeg).toInt ∧ ¬ p3.toInt = p4.toInt) ∧ ¬ ((u.2 16 p1.toNatClampNeg).toInt = 0)) ∨ ((u42_.1 0).toInt = 0 ∧ (0 ≤ p1.toInt ∧ p1.toInt < (u.1 2).toInt ∧ 0 ≤ p2.toInt ∧ p2.toInt ≤ 7) ∧ (0 ≤ p3.toInt ∧ p3.toInt < (u.2 5 p2.toNatClampNeg).toInt ∧ 0 ≤ p4.toInt ∧ p4.toInt < (u.2 5 p2.toNatClampNeg).toInt ∧ ¬ p3.toInt = p4.toInt) ∧ ((u.2 16 p1.toNatClampNeg).toInt = 0)); omega), (fun q => absurd q (by omega)), (fun _ => ⟨_, by rw [eu42_]⟩)⟩)
          · unfold fm_watch_113
            obtain ⟨u46_, eu46_⟩ : ∃ y, y = g_sI u 0 (2 : Int32) := ⟨_, rfl⟩
            refine okk_bs (v := ((1 : Int32), u46_)) (by rw [eu46_]; exact fm_thr_2 _ _) ?_
            dsimp only
            have Iu46_ : IM g u46_ := by rw [eu46_]; exact IM_ix I _ (by decide)
            have h047_ : (u46_.1 0).toInt = 2 := by rw [eu46_, rdI, if_pos rfl]; decide
            have z48_ : (u46_.1 1).toInt = (u.1 1).toInt := by rw [eu46_]; rfl
            have z49_ : (u46_.1 2).toInt = (u.1 2).toInt := by rw [eu46_]; rfl
            refine okk_f (by decide) ?_
            exact okk_some (⟨Iu46_, (by show ((u46_.1 0).toInt = 1 ∧ ¬ (0 ≤ p1.toInt ∧ p1.toInt < (u.1 2).toInt ∧ 0 ≤ p2.toInt ∧ p2.toInt ≤ 7)) ∨ ((u46_.1 0).toInt = 2 ∧ (0 ≤ p1.toInt ∧ p1.toInt < (u.1 2).toInt ∧ 0 ≤ p2.toInt ∧ p2.toInt ≤ 7) ∧ ¬ (0 ≤ p3.toInt ∧ p3.toInt < (u.2 5 p2.toNatClampNeg).toInt ∧ 0 ≤ p4.toInt ∧ p4.toInt < (u.2 5 p2.toNatClampNeg).toInt ∧ ¬ p3.toInt = p4.toInt)) ∨ ((u46_.1 0).toInt = 3 ∧ (0 ≤ p1.toInt ∧ p1.toInt < (u.1 2).toInt ∧ 0 ≤ p2.toInt ∧ p2.toInt ≤ 7) ∧ (0 ≤ p3.toInt ∧ p3.toInt < (u.2 5 p2.toNatClampNeg).toInt ∧ 0 ≤ p4.toInt ∧ p4.toInt < (u.2 5 p2.toNatClampNeg).toInt ∧ ¬ p3.toInt = p4.toInt) ∧ ¬ ((u.2 16 p1.toNatClampNeg).toInt = 0)) ∨ ((u46_.1 0).toInt = 0 ∧ (0 ≤ p1.toInt ∧ p1.toInt < (u.1 2).toInt ∧ 0 ≤ p2.toInt ∧ p2.toInt ≤ 7) ∧ (0 ≤ p3.toInt ∧ p3.toInt < (u.2 5 p2.toNatClampNeg).toInt ∧ 0 ≤ p4.toInt ∧ p4.toInt < (u.2 5 p2.toNatClampNeg).toInt ∧ ¬ p3.toInt = p4.toInt) ∧ ((u.2 16 p1.toNatClampNeg).toInt = 0)); omega), (fun q => absurd q (by omega)), (fun _ => ⟨_, by rw [eu46_]⟩)⟩)
      · refine okk_t (by decide) ?_
        unfold fm_watch_71
        refine okk_t (by decide) ?_
        refine okk_f (by decide) ?_
        unfold fm_watch_94
        refine okk_f (by decide) ?_
        refine okk_ck (vp_I (by omega) (by omega)) ?_
        refine okk_eq (fun c50_ c50_I => ?_) (fun c50_ c50_I => ?_)
        · unfold fm_watch_113
          obtain ⟨u51_, eu51_⟩ : ∃ y, y = g_sI u 0 (2 : Int32) := ⟨_, rfl⟩
          refine okk_bs (v := ((1 : Int32), u51_)) (by rw [eu51_]; exact fm_thr_2 _ _) ?_
          dsimp only
          have Iu51_ : IM g u51_ := by rw [eu51_]; exact IM_ix I _ (by decide)
          have h052_ : (u51_.1 0).toInt = 2 := by rw [eu51_, rdI, if_pos rfl]; decide
          have z53_ : (u51_.1 1).toInt = (u.1 1).toInt := by rw [eu51_]; rfl
          have z54_ : (u51_.1 2).toInt = (u.1 2).toInt := by rw [eu51_]; rfl
          refine okk_f (by decide) ?_
          exact okk_some (⟨Iu51_, (by show ((u51_.1 0).toInt = 1 ∧ ¬ (0 ≤ p1.toInt ∧ p1.toInt < (u.1 2).toInt ∧ 0 ≤ p2.toInt ∧ p2.toInt ≤ 7)) ∨ ((u51_.1 0).toInt = 2 ∧ (0 ≤ p1.toInt ∧ p1.toInt < (u.1 2).toInt ∧ 0 ≤ p2.toInt ∧ p2.toInt ≤ 7) ∧ ¬ (0 ≤ p3.toInt ∧ p3.toInt < (u.2 5 p2.toNatClampNeg).toInt ∧ 0 ≤ p4.toInt ∧ p4.toInt < (u.2 5 p2.toNatClampNeg).toInt ∧ ¬ p3.toInt = p4.toInt)) ∨ ((u51_.1 0).toInt = 3 ∧ (0 ≤ p1.toInt ∧ p1.toInt < (u.1 2).toInt ∧ 0 ≤ p2.toInt ∧ p2.toInt ≤ 7) ∧ (0 ≤ p3.toInt ∧ p3.toInt < (u.2 5 p2.toNatClampNeg).toInt ∧ 0 ≤ p4.toInt ∧ p4.toInt < (u.2 5 p2.toNatClampNeg).toInt ∧ ¬ p3.toInt = p4.toInt) ∧ ¬ ((u.2 16 p1.toNatClampNeg).toInt = 0)) ∨ ((u51_.1 0).toInt = 0 ∧ (0 ≤ p1.toInt ∧ p1.toInt < (u.1 2).toInt ∧ 0 ≤ p2.toInt ∧ p2.toInt ≤ 7) ∧ (0 ≤ p3.toInt ∧ p3.toInt < (u.2 5 p2.toNatClampNeg).toInt ∧ 0 ≤ p4.toInt ∧ p4.toInt < (u.2 5 p2.toNatClampNeg).toInt ∧ ¬ p3.toInt = p4.toInt) ∧ ((u.2 16 p1.toNatClampNeg).toInt = 0)); omega), (fun q => absurd q (by omega)), (fun _ => ⟨_, by rw [eu51_]⟩)⟩)
        · unfold fm_watch_113
          obtain ⟨u55_, eu55_⟩ : ∃ y, y = g_sI u 0 (2 : Int32) := ⟨_, rfl⟩
          refine okk_bs (v := ((1 : Int32), u55_)) (by rw [eu55_]; exact fm_thr_2 _ _) ?_
          dsimp only
          have Iu55_ : IM g u55_ := by rw [eu55_]; exact IM_ix I _ (by decide)
          have h056_ : (u55_.1 0).toInt = 2 := by rw [eu55_, rdI, if_pos rfl]; decide
          have z57_ : (u55_.1 1).toInt = (u.1 1).toInt := by rw [eu55_]; rfl
          have z58_ : (u55_.1 2).toInt = (u.1 2).toInt := by rw [eu55_]; rfl
          refine okk_f (by decide) ?_
          exact okk_some (⟨Iu55_, (by show ((u55_.1 0).toInt = 1 ∧ ¬ (0 ≤ p1.toInt ∧ p1.toInt < (u.1 2).toInt ∧ 0 ≤ p2.toInt ∧ p2.toInt ≤ 7)) ∨ ((u55_.1 0).toInt = 2 ∧ (0 ≤ p1.toInt ∧ p1.toInt < (u.1 2).toInt ∧ 0 ≤ p2.toInt ∧ p2.toInt ≤ 7) ∧ ¬ (0 ≤ p3.toInt ∧ p3.toInt < (u.2 5 p2.toNatClampNeg).toInt ∧ 0 ≤ p4.toInt ∧ p4.toInt < (u.2 5 p2.toNatClampNeg).toInt ∧ ¬ p3.toInt = p4.toInt)) ∨ ((u55_.1 0).toInt = 3 ∧ (0 ≤ p1.toInt ∧ p1.toInt < (u.1 2).toInt ∧ 0 ≤ p2.toInt ∧ p2.toInt ≤ 7) ∧ (0 ≤ p3.toInt ∧ p3.toInt < (u.2 5 p2.toNatClampNeg).toInt ∧ 0 ≤ p4.toInt ∧ p4.toInt < (u.2 5 p2.toNatClampNeg).toInt ∧ ¬ p3.toInt = p4.toInt) ∧ ¬ ((u.2 16 p1.toNatClampNeg).toInt = 0)) ∨ ((u55_.1 0).toInt = 0 ∧ (0 ≤ p1.toInt ∧ p1.toInt < (u.1 2).toInt ∧ 0 ≤ p2.toInt ∧ p2.toInt ≤ 7) ∧ (0 ≤ p3.toInt ∧ p3.toInt < (u.2 5 p2.toNatClampNeg).toInt ∧ 0 ≤ p4.toInt ∧ p4.toInt < (u.2 5 p2.toNatClampNeg).toInt ∧ ¬ p3.toInt = p4.toInt) ∧ ((u.2 16 p1.toNatClampNeg).toInt = 0)); omega), (fun q => absurd q (by omega)), (fun _ => ⟨_, by rw [eu55_]⟩)⟩)
    · refine okk_t (by decide) ?_
      unfold fm_watch_20
      refine okk_t (by decide) ?_
      unfold fm_watch_71
      refine okk_f (by decide) ?_
      refine okk_f (by decide) ?_
      unfold fm_watch_94
      refine okk_t (by decide) ?_
      unfold fm_watch_113
      obtain ⟨u59_, eu59_⟩ : ∃ y, y = g_sI u 0 (1 : Int32) := ⟨_, rfl⟩
      refine okk_bs (v := ((1 : Int32), u59_)) (by rw [eu59_]; exact fm_thr_1 _ _ _) ?_
      dsimp only
      have Iu59_ : IM g u59_ := by rw [eu59_]; exact IM_ix I _ (by decide)
      have h060_ : (u59_.1 0).toInt = 1 := by rw [eu59_, rdI, if_pos rfl]; decide
      have z61_ : (u59_.1 1).toInt = (u.1 1).toInt := by rw [eu59_]; rfl
      have z62_ : (u59_.1 2).toInt = (u.1 2).toInt := by rw [eu59_]; rfl
      refine okk_f (by decide) ?_
      exact okk_some (⟨Iu59_, (by show ((u59_.1 0).toInt = 1 ∧ ¬ (0 ≤ p1.toInt ∧ p1.toInt < (u.1 2).toInt ∧ 0 ≤ p2.toInt ∧ p2.toInt ≤ 7)) ∨ ((u59_.1 0).toInt = 2 ∧ (0 ≤ p1.toInt ∧ p1.toInt < (u.1 2).toInt ∧ 0 ≤ p2.toInt ∧ p2.toInt ≤ 7) ∧ ¬ (0 ≤ p3.toInt ∧ p3.toInt < (u.2 5 p2.toNatClampNeg).toInt ∧ 0 ≤ p4.toInt ∧ p4.toInt < (u.2 5 p2.toNatClampNeg).toInt ∧ ¬ p3.toInt = p4.toInt)) ∨ ((u59_.1 0).toInt = 3 ∧ (0 ≤ p1.toInt ∧ p1.toInt < (u.1 2).toInt ∧ 0 ≤ p2.toInt ∧ p2.toInt ≤ 7) ∧ (0 ≤ p3.toInt ∧ p3.toInt < (u.2 5 p2.toNatClampNeg).toInt ∧ 0 ≤ p4.toInt ∧ p4.toInt < (u.2 5 p2.toNatClampNeg).toInt ∧ ¬ p3.toInt = p4.toInt) ∧ ¬ ((u.2 16 p1.toNatClampNeg).toInt = 0)) ∨ ((u59_.1 0).toInt = 0 ∧ (0 ≤ p1.toInt ∧ p1.toInt < (u.1 2).toInt ∧ 0 ≤ p2.toInt ∧ p2.toInt ≤ 7) ∧ (0 ≤ p3.toInt ∧ p3.toInt < (u.2 5 p2.toNatClampNeg).toInt ∧ 0 ≤ p4.toInt ∧ p4.toInt < (u.2 5 p2.toNatClampNeg).toInt ∧ ¬ p3.toInt = p4.toInt) ∧ ((u.2 16 p1.toNatClampNeg).toInt = 0)); omega), (fun q => absurd q (by omega)), (fun _ => ⟨_, by rw [eu59_]⟩)⟩)
  · have t63_ : ((u.1 2) - (1 : Int32)).toInt = ((u.1 2).toInt - (1 : Int)) := (oi_sub (a := (u.1 2)) (b := (1 : Int32)) rfl (by decide : (1 : Int32).toInt = 1) (by omega) (by omega))
    refine okk_t (by decide) ?_
    unfold fm_watch_20
    refine okk_t (by decide) ?_
    unfold fm_watch_71
    refine okk_f (by decide) ?_
    refine okk_f (by decide) ?_
    unfold fm_watch_94
    refine okk_t (by decide) ?_
    unfold fm_watch_113
    obtain ⟨u64_, eu64_⟩ : ∃ y, y = g_sI u 0 (1 : Int32) := ⟨_, rfl⟩
    refine okk_bs (v := ((1 : Int32), u64_)) (by rw [eu64_]; exact fm_thr_1 _ _ _) ?_
    dsimp only
    have Iu64_ : IM g u64_ := by rw [eu64_]; exact IM_ix I _ (by decide)
    have h065_ : (u64_.1 0).toInt = 1 := by rw [eu64_, rdI, if_pos rfl]; decide
    have z66_ : (u64_.1 1).toInt = (u.1 1).toInt := by rw [eu64_]; rfl
    have z67_ : (u64_.1 2).toInt = (u.1 2).toInt := by rw [eu64_]; rfl
    refine okk_f (by decide) ?_
    exact okk_some (⟨Iu64_, (by show ((u64_.1 0).toInt = 1 ∧ ¬ (0 ≤ p1.toInt ∧ p1.toInt < (u.1 2).toInt ∧ 0 ≤ p2.toInt ∧ p2.toInt ≤ 7)) ∨ ((u64_.1 0).toInt = 2 ∧ (0 ≤ p1.toInt ∧ p1.toInt < (u.1 2).toInt ∧ 0 ≤ p2.toInt ∧ p2.toInt ≤ 7) ∧ ¬ (0 ≤ p3.toInt ∧ p3.toInt < (u.2 5 p2.toNatClampNeg).toInt ∧ 0 ≤ p4.toInt ∧ p4.toInt < (u.2 5 p2.toNatClampNeg).toInt ∧ ¬ p3.toInt = p4.toInt)) ∨ ((u64_.1 0).toInt = 3 ∧ (0 ≤ p1.toInt ∧ p1.toInt < (u.1 2).toInt ∧ 0 ≤ p2.toInt ∧ p2.toInt ≤ 7) ∧ (0 ≤ p3.toInt ∧ p3.toInt < (u.2 5 p2.toNatClampNeg).toInt ∧ 0 ≤ p4.toInt ∧ p4.toInt < (u.2 5 p2.toNatClampNeg).toInt ∧ ¬ p3.toInt = p4.toInt) ∧ ¬ ((u.2 16 p1.toNatClampNeg).toInt = 0)) ∨ ((u64_.1 0).toInt = 0 ∧ (0 ≤ p1.toInt ∧ p1.toInt < (u.1 2).toInt ∧ 0 ≤ p2.toInt ∧ p2.toInt ≤ 7) ∧ (0 ≤ p3.toInt ∧ p3.toInt < (u.2 5 p2.toNatClampNeg).toInt ∧ 0 ≤ p4.toInt ∧ p4.toInt < (u.2 5 p2.toNatClampNeg).toInt ∧ ¬ p3.toInt = p4.toInt) ∧ ((u.2 16 p1.toNatClampNeg).toInt = 0)); omega), (fun q => absurd q (by omega)), (fun _ => ⟨_, by rw [eu64_]⟩)⟩)
set_option maxHeartbeats 4000000 in
theorem okl_fcJ_state {g : Nat → Int32} {u : g_S} (I : IC g u) {p1 : Int32} {p2 : Int32} : okk (fcJ_state u p1 p2) (fun r => IC g r.2 ∧ ((r.1 = 1 ∧ ¬ (0 ≤ p1.toInt ∧ p1.toInt < (u.1 1).toInt)) ∨ (r.1 = 2 ∧ (0 ≤ p1.toInt ∧ p1.toInt < (u.1 1).toInt) ∧ ¬ (0 ≤ p2.toInt ∧ p2.toInt ≤ 2)) ∨ (r.1 = 3 ∧ (0 ≤ p1.toInt ∧ p1.toInt < (u.1 1).toInt) ∧ (0 ≤ p2.toInt ∧ p2.toInt ≤ 2) ∧ ¬ (¬ (u.2 17 p1.toNatClampNeg).toInt = p2.toInt ∧ ¬ (u.2 17 p1.toNatClampNeg).toInt = 3)) ∨ (r.1 = 0 ∧ (0 ≤ p1.toInt ∧ p1.toInt < (u.1 1).toInt) ∧ (0 ≤ p2.toInt ∧ p2.toInt ≤ 2) ∧ (¬ (u.2 17 p1.toNatClampNeg).toInt = p2.toInt ∧ ¬ (u.2 17 p1.toNatClampNeg).toInt = 3))) ∧ (r.1 = 0 → r.2 = g_sA u 17 p1 p2) ∧ (¬ r.1 = 0 → r.2 = u)) := by
  unfold fcJ_state
  have z1_ := IC_s I
  refine okk_isBelow (fun b2_ => ?_) (fun b2_ => ?_)
  · refine okk_bs (v := (0 : Nat)) (by decide) ?_
    refine okk_t (by decide) ?_
    try have t4_ : (0 : Int32).toInt = (0 : Int) := (by decide : (0 : Int32).toInt = 0)
    refine okk_lt (fun c3_ c3_I => ?_) (fun c3_ c3_I => ?_)
    · unfold fcJ_state_28
      refine okk_bs (v := (2 : Nat)) (by decide) ?_
      refine okk_f (by decide) ?_
      exact okk_some (⟨I, (by show (2 = 1 ∧ ¬ (0 ≤ p1.toInt ∧ p1.toInt < (u.1 1).toInt)) ∨ (2 = 2 ∧ (0 ≤ p1.toInt ∧ p1.toInt < (u.1 1).toInt) ∧ ¬ (0 ≤ p2.toInt ∧ p2.toInt ≤ 2)) ∨ (2 = 3 ∧ (0 ≤ p1.toInt ∧ p1.toInt < (u.1 1).toInt) ∧ (0 ≤ p2.toInt ∧ p2.toInt ≤ 2) ∧ ¬ (¬ (u.2 17 p1.toNatClampNeg).toInt = p2.toInt ∧ ¬ (u.2 17 p1.toNatClampNeg).toInt = 3)) ∨ (2 = 0 ∧ (0 ≤ p1.toInt ∧ p1.toInt < (u.1 1).toInt) ∧ (0 ≤ p2.toInt ∧ p2.toInt ≤ 2) ∧ (¬ (u.2 17 p1.toNatClampNeg).toInt = p2.toInt ∧ ¬ (u.2 17 p1.toNatClampNeg).toInt = 3)); omega), (fun q => by simp at q), (fun _ => rfl)⟩)
    · try have t6_ : (2 : Int32).toInt = (2 : Int) := (by decide : (2 : Int32).toInt = 2)
      refine okk_lt (fun c5_ c5_I => ?_) (fun c5_ c5_I => ?_)
      · unfold fcJ_state_28
        refine okk_bs (v := (2 : Nat)) (by decide) ?_
        refine okk_f (by decide) ?_
        exact okk_some (⟨I, (by show (2 = 1 ∧ ¬ (0 ≤ p1.toInt ∧ p1.toInt < (u.1 1).toInt)) ∨ (2 = 2 ∧ (0 ≤ p1.toInt ∧ p1.toInt < (u.1 1).toInt) ∧ ¬ (0 ≤ p2.toInt ∧ p2.toInt ≤ 2)) ∨ (2 = 3 ∧ (0 ≤ p1.toInt ∧ p1.toInt < (u.1 1).toInt) ∧ (0 ≤ p2.toInt ∧ p2.toInt ≤ 2) ∧ ¬ (¬ (u.2 17 p1.toNatClampNeg).toInt = p2.toInt ∧ ¬ (u.2 17 p1.toNatClampNeg).toInt = 3)) ∨ (2 = 0 ∧ (0 ≤ p1.toInt ∧ p1.toInt < (u.1 1).toInt) ∧ (0 ≤ p2.toInt ∧ p2.toInt ≤ 2) ∧ (¬ (u.2 17 p1.toNatClampNeg).toInt = p2.toInt ∧ ¬ (u.2 17 p1.toNatClampNeg).toInt = 3)); omega), (fun q => by simp at q), (fun _ => rfl)⟩)
      · unfold fcJ_state_28
        refine okk_bs (v := (0 : Nat)) (by decide) ?_
        refine okk_t (by decide) ?_
        refine okk_ck (vp_I (by omega) (by omega)) ?_
        refine okk_eq (fun c7_ c7_I => ?_) (fun c7_ c7_I => ?_)
        · unfold fcJ_state_62
          refine okk_bs (v := (3 : Nat)) (by decide) ?_
          refine okk_f (by decide) ?_
          exact okk_some (⟨I, (by show (3 = 1 ∧ ¬ (0 ≤ p1.toInt ∧ p1.toInt < (u.1 1).toInt)) ∨ (3 = 2 ∧ (0 ≤ p1.toInt ∧ p1.toInt < (u.1 1).toInt) ∧ ¬ (0 ≤ p2.toInt ∧ p2.toInt ≤ 2)) ∨ (3 = 3 ∧ (0 ≤ p1.toInt ∧ p1.toInt < (u.1 1).toInt) ∧ (0 ≤ p2.toInt ∧ p2.toInt ≤ 2) ∧ ¬ (¬ (u.2 17 p1.toNatClampNeg).toInt = p2.toInt ∧ ¬ (u.2 17 p1.toNatClampNeg).toInt = 3)) ∨ (3 = 0 ∧ (0 ≤ p1.toInt ∧ p1.toInt < (u.1 1).toInt) ∧ (0 ≤ p2.toInt ∧ p2.toInt ≤ 2) ∧ (¬ (u.2 17 p1.toNatClampNeg).toInt = p2.toInt ∧ ¬ (u.2 17 p1.toNatClampNeg).toInt = 3)); omega), (fun q => by simp at q), (fun _ => rfl)⟩)
        · refine okk_ck (vp_I (by omega) (by omega)) ?_
          try have t9_ : (3 : Int32).toInt = (3 : Int) := (by decide : (3 : Int32).toInt = 3)
          refine okk_eq (fun c8_ c8_I => ?_) (fun c8_ c8_I => ?_)
          · unfold fcJ_state_62
            refine okk_bs (v := (3 : Nat)) (by decide) ?_
            refine okk_f (by decide) ?_
            exact okk_some (⟨I, (by show (3 = 1 ∧ ¬ (0 ≤ p1.toInt ∧ p1.toInt < (u.1 1).toInt)) ∨ (3 = 2 ∧ (0 ≤ p1.toInt ∧ p1.toInt < (u.1 1).toInt) ∧ ¬ (0 ≤ p2.toInt ∧ p2.toInt ≤ 2)) ∨ (3 = 3 ∧ (0 ≤ p1.toInt ∧ p1.toInt < (u.1 1).toInt) ∧ (0 ≤ p2.toInt ∧ p2.toInt ≤ 2) ∧ ¬ (¬ (u.2 17 p1.toNatClampNeg).toInt = p2.toInt ∧ ¬ (u.2 17 p1.toNatClampNeg).toInt = 3)) ∨ (3 = 0 ∧ (0 ≤ p1.toInt ∧ p1.toInt < (u.1 1).toInt) ∧ (0 ≤ p2.toInt ∧ p2.toInt ≤ 2) ∧ (¬ (u.2 17 p1.toNatClampNeg).toInt = p2.toInt ∧ ¬ (u.2 17 p1.toNatClampNeg).toInt = 3)); omega), (fun q => by simp at q), (fun _ => rfl)⟩)
          · unfold fcJ_state_62
            refine okk_bs (v := (0 : Nat)) (by decide) ?_
            refine okk_t (by decide) ?_
            refine okk_ck (vp_I (by omega) (by omega)) ?_
            refine okk_gl (fun u510_ eu510_ => ?_)
            have Iu510_ : IC g u510_ := by rw [eu510_]; exact IC_w17 I _ _ (IC_f I _ (Or.inl c8_))
            have z11_ : (u510_.1 0).toInt = (u.1 0).toInt := by rw [eu510_]; rfl
            have z12_ : (u510_.1 1).toInt = (u.1 1).toInt := by rw [eu510_]; rfl
            exact okk_some (⟨Iu510_, (by show (0 = 1 ∧ ¬ (0 ≤ p1.toInt ∧ p1.toInt < (u.1 1).toInt)) ∨ (0 = 2 ∧ (0 ≤ p1.toInt ∧ p1.toInt < (u.1 1).toInt) ∧ ¬ (0 ≤ p2.toInt ∧ p2.toInt ≤ 2)) ∨ (0 = 3 ∧ (0 ≤ p1.toInt ∧ p1.toInt < (u.1 1).toInt) ∧ (0 ≤ p2.toInt ∧ p2.toInt ≤ 2) ∧ ¬ (¬ (u.2 17 p1.toNatClampNeg).toInt = p2.toInt ∧ ¬ (u.2 17 p1.toNatClampNeg).toInt = 3)) ∨ (0 = 0 ∧ (0 ≤ p1.toInt ∧ p1.toInt < (u.1 1).toInt) ∧ (0 ≤ p2.toInt ∧ p2.toInt ≤ 2) ∧ (¬ (u.2 17 p1.toNatClampNeg).toInt = p2.toInt ∧ ¬ (u.2 17 p1.toNatClampNeg).toInt = 3)); omega), (fun _ => by rw [eu510_]), (fun q => absurd rfl q)⟩)
  · refine okk_bs (v := (1 : Nat)) (by decide) ?_
    refine okk_f (by decide) ?_
    exact okk_some (⟨I, (by show (1 = 1 ∧ ¬ (0 ≤ p1.toInt ∧ p1.toInt < (u.1 1).toInt)) ∨ (1 = 2 ∧ (0 ≤ p1.toInt ∧ p1.toInt < (u.1 1).toInt) ∧ ¬ (0 ≤ p2.toInt ∧ p2.toInt ≤ 2)) ∨ (1 = 3 ∧ (0 ≤ p1.toInt ∧ p1.toInt < (u.1 1).toInt) ∧ (0 ≤ p2.toInt ∧ p2.toInt ≤ 2) ∧ ¬ (¬ (u.2 17 p1.toNatClampNeg).toInt = p2.toInt ∧ ¬ (u.2 17 p1.toNatClampNeg).toInt = 3)) ∨ (1 = 0 ∧ (0 ≤ p1.toInt ∧ p1.toInt < (u.1 1).toInt) ∧ (0 ≤ p2.toInt ∧ p2.toInt ≤ 2) ∧ (¬ (u.2 17 p1.toNatClampNeg).toInt = p2.toInt ∧ ¬ (u.2 17 p1.toNatClampNeg).toInt = 3)); omega), (fun q => by simp at q), (fun _ => rfl)⟩)
set_option maxHeartbeats 4000000 in
theorem okl_fm_state {g : Nat → Int32} {u : g_S} (I : IM g u) {p1 : Int32} {p2 : Int32} : okk (fm_state u p1 p2) (fun r => IM g r ∧ (((r.1 0).toInt = 1 ∧ ¬ (0 ≤ p1.toInt ∧ p1.toInt < (u.1 2).toInt)) ∨ ((r.1 0).toInt = 2 ∧ (0 ≤ p1.toInt ∧ p1.toInt < (u.1 2).toInt) ∧ ¬ (0 ≤ p2.toInt ∧ p2.toInt ≤ 2)) ∨ ((r.1 0).toInt = 3 ∧ (0 ≤ p1.toInt ∧ p1.toInt < (u.1 2).toInt) ∧ (0 ≤ p2.toInt ∧ p2.toInt ≤ 2) ∧ ¬ (¬ (u.2 16 p1.toNatClampNeg).toInt = p2.toInt ∧ ¬ (u.2 16 p1.toNatClampNeg).toInt = 3)) ∨ ((r.1 0).toInt = 0 ∧ (0 ≤ p1.toInt ∧ p1.toInt < (u.1 2).toInt) ∧ (0 ≤ p2.toInt ∧ p2.toInt ≤ 2) ∧ (¬ (u.2 16 p1.toNatClampNeg).toInt = p2.toInt ∧ ¬ (u.2 16 p1.toNatClampNeg).toInt = 3))) ∧ ((r.1 0).toInt = 0 → r = g_sA (g_sI u 0 (0 : Int32)) 16 p1 p2) ∧ (¬ (r.1 0).toInt = 0 → ∃ k : Int32, r = g_sI u 0 k)) := by
  unfold fm_state
  have z1_ := IM_s I
  refine okk_isEvent (fun b2_ => ?_) (fun b2_ => ?_)
  · have t3_ : ((u.1 2) - (1 : Int32)).toInt = ((u.1 2).toInt - (1 : Int)) := (oi_sub (a := (u.1 2)) (b := (1 : Int32)) rfl (by decide : (1 : Int32).toInt = 1) (by omega) (by omega))
    refine okk_t (by decide) ?_
    unfold fm_state_16
    try have t4_ : (0 : Int32).toInt = (0 : Int) := (by decide : (0 : Int32).toInt = 0)
    try have t5_ : (2 : Int32).toInt = (2 : Int) := (by decide : (2 : Int32).toInt = 2)
    refine okk_in (fun b6_ => ?_) (fun b6_ => ?_)
    · refine okk_t (by decide) ?_
      unfold fm_state_30
      refine okk_f (by decide) ?_
      refine okk_ck (vp_I (by omega) (by omega)) ?_
      refine okk_eq (fun c7_ c7_I => ?_) (fun c7_ c7_I => ?_)
      · unfold fm_state_59
        obtain ⟨u8_, eu8_⟩ : ∃ y, y = g_sI u 0 (3 : Int32) := ⟨_, rfl⟩
        refine okk_bs (v := ((1 : Int32), u8_)) (by rw [eu8_]; exact fm_thr_3 _) ?_
        dsimp only
        have Iu8_ : IM g u8_ := by rw [eu8_]; exact IM_ix I _ (by decide)
        have h09_ : (u8_.1 0).toInt = 3 := by rw [eu8_, rdI, if_pos rfl]; decide
        have z10_ : (u8_.1 1).toInt = (u.1 1).toInt := by rw [eu8_]; rfl
        have z11_ : (u8_.1 2).toInt = (u.1 2).toInt := by rw [eu8_]; rfl
        refine okk_f (by decide) ?_
        exact okk_some (⟨Iu8_, (by show ((u8_.1 0).toInt = 1 ∧ ¬ (0 ≤ p1.toInt ∧ p1.toInt < (u.1 2).toInt)) ∨ ((u8_.1 0).toInt = 2 ∧ (0 ≤ p1.toInt ∧ p1.toInt < (u.1 2).toInt) ∧ ¬ (0 ≤ p2.toInt ∧ p2.toInt ≤ 2)) ∨ ((u8_.1 0).toInt = 3 ∧ (0 ≤ p1.toInt ∧ p1.toInt < (u.1 2).toInt) ∧ (0 ≤ p2.toInt ∧ p2.toInt ≤ 2) ∧ ¬ (¬ (u.2 16 p1.toNatClampNeg).toInt = p2.toInt ∧ ¬ (u.2 16 p1.toNatClampNeg).toInt = 3)) ∨ ((u8_.1 0).toInt = 0 ∧ (0 ≤ p1.toInt ∧ p1.toInt < (u.1 2).toInt) ∧ (0 ≤ p2.toInt ∧ p2.toInt ≤ 2) ∧ (¬ (u.2 16 p1.toNatClampNeg).toInt = p2.toInt ∧ ¬ (u.2 16 p1.toNatClampNeg).toInt = 3)); omega), (fun q => absurd q (by omega)), (fun _ => ⟨_, by rw [eu8_]⟩)⟩)
      · refine okk_ck (vp_I (by omega) (by omega)) ?_
        try have t13_ : (3 : Int32).toInt = (3 : Int) := (by decide : (3 : Int32).toInt = 3)
        refine okk_ne (fun c12_ c12_I => ?_) (fun c12_ c12_I => ?_)
        · unfold fm_state_59
          obtain ⟨u14_, eu14_⟩ : ∃ y, y = g_sI u 0 (0 : Int32) := ⟨_, rfl⟩
          refine okk_bs (v := ((0 : Int32), u14_)) (by rw [eu14_]; exact fm_thr_0 _) ?_
          dsimp only
          have Iu14_ : IM g u14_ := by rw [eu14_]; exact IM_ix I _ (by decide)
          have h015_ : (u14_.1 0).toInt = 0 := by rw [eu14_, rdI, if_pos rfl]; decide
          have z16_ : (u14_.1 1).toInt = (u.1 1).toInt := by rw [eu14_]; rfl
          have z17_ : (u14_.1 2).toInt = (u.1 2).toInt := by rw [eu14_]; rfl
          refine okk_t (by decide) ?_
          refine okk_ck (vp_I (by omega) (by omega)) ?_
          refine okk_gl (fun u418_ eu418_ => ?_)
          have Iu418_ : IM g u418_ := by rw [eu418_]; exact IM_w16 Iu14_ _ _ (Or.inr (by rw [eu14_]; exact c12_))
          have z19_ : (u418_.1 0).toInt = (u14_.1 0).toInt := by rw [eu418_]; rfl
          have z20_ : (u418_.1 1).toInt = (u14_.1 1).toInt := by rw [eu418_]; rfl
          have z21_ : (u418_.1 2).toInt = (u14_.1 2).toInt := by rw [eu418_]; rfl
          exact okk_some (⟨Iu418_, (by show ((u418_.1 0).toInt = 1 ∧ ¬ (0 ≤ p1.toInt ∧ p1.toInt < (u.1 2).toInt)) ∨ ((u418_.1 0).toInt = 2 ∧ (0 ≤ p1.toInt ∧ p1.toInt < (u.1 2).toInt) ∧ ¬ (0 ≤ p2.toInt ∧ p2.toInt ≤ 2)) ∨ ((u418_.1 0).toInt = 3 ∧ (0 ≤ p1.toInt ∧ p1.toInt < (u.1 2).toInt) ∧ (0 ≤ p2.toInt ∧ p2.toInt ≤ 2) ∧ ¬ (¬ (u.2 16 p1.toNatClampNeg).toInt = p2.toInt ∧ ¬ (u.2 16 p1.toNatClampNeg).toInt = 3)) ∨ ((u418_.1 0).toInt = 0 ∧ (0 ≤ p1.toInt ∧ p1.toInt < (u.1 2).toInt) ∧ (0 ≤ p2.toInt ∧ p2.toInt ≤ 2) ∧ (¬ (u.2 16 p1.toNatClampNeg).toInt = p2.toInt ∧ ¬ (u.2 16 p1.toNatClampNeg).toInt = 3)); omega), (fun _ => by rw [eu418_, eu14_]), (fun q => absurd (by omega) q)⟩)
        · unfold fm_state_59
          obtain ⟨u22_, eu22_⟩ : ∃ y, y = g_sI u 0 (3 : Int32) := ⟨_, rfl⟩
          refine okk_bs (v := ((1 : Int32), u22_)) (by rw [eu22_]; exact fm_thr_3 _) ?_
          dsimp only
          have Iu22_ : IM g u22_ := by rw [eu22_]; exact IM_ix I _ (by decide)
          have h023_ : (u22_.1 0).toInt = 3 := by rw [eu22_, rdI, if_pos rfl]; decide
          have z24_ : (u22_.1 1).toInt = (u.1 1).toInt := by rw [eu22_]; rfl
          have z25_ : (u22_.1 2).toInt = (u.1 2).toInt := by rw [eu22_]; rfl
          refine okk_f (by decide) ?_
          exact okk_some (⟨Iu22_, (by show ((u22_.1 0).toInt = 1 ∧ ¬ (0 ≤ p1.toInt ∧ p1.toInt < (u.1 2).toInt)) ∨ ((u22_.1 0).toInt = 2 ∧ (0 ≤ p1.toInt ∧ p1.toInt < (u.1 2).toInt) ∧ ¬ (0 ≤ p2.toInt ∧ p2.toInt ≤ 2)) ∨ ((u22_.1 0).toInt = 3 ∧ (0 ≤ p1.toInt ∧ p1.toInt < (u.1 2).toInt) ∧ (0 ≤ p2.toInt ∧ p2.toInt ≤ 2) ∧ ¬ (¬ (u.2 16 p1.toNatClampNeg).toInt = p2.toInt ∧ ¬ (u.2 16 p1.toNatClampNeg).toInt = 3)) ∨ ((u22_.1 0).toInt = 0 ∧ (0 ≤ p1.toInt ∧ p1.toInt < (u.1 2).toInt) ∧ (0 ≤ p2.toInt ∧ p2.toInt ≤ 2) ∧ (¬ (u.2 16 p1.toNatClampNeg).toInt = p2.toInt ∧ ¬ (u.2 16 p1.toNatClampNeg).toInt = 3)); omega), (fun q => absurd q (by omega)), (fun _ => ⟨_, by rw [eu22_]⟩)⟩)
    · refine okk_f (by decide) ?_
      unfold fm_state_30
      refine okk_f (by decide) ?_
      refine okk_ck (vp_I (by omega) (by omega)) ?_
      refine okk_eq (fun c26_ c26_I => ?_) (fun c26_ c26_I => ?_)
      · unfold fm_state_59
        obtain ⟨u27_, eu27_⟩ : ∃ y, y = g_sI u 0 (2 : Int32) := ⟨_, rfl⟩
        refine okk_bs (v := ((1 : Int32), u27_)) (by rw [eu27_]; exact fm_thr_2 _ _) ?_
        dsimp only
        have Iu27_ : IM g u27_ := by rw [eu27_]; exact IM_ix I _ (by decide)
        have h028_ : (u27_.1 0).toInt = 2 := by rw [eu27_, rdI, if_pos rfl]; decide
        have z29_ : (u27_.1 1).toInt = (u.1 1).toInt := by rw [eu27_]; rfl
        have z30_ : (u27_.1 2).toInt = (u.1 2).toInt := by rw [eu27_]; rfl
        refine okk_f (by decide) ?_
        exact okk_some (⟨Iu27_, (by show ((u27_.1 0).toInt = 1 ∧ ¬ (0 ≤ p1.toInt ∧ p1.toInt < (u.1 2).toInt)) ∨ ((u27_.1 0).toInt = 2 ∧ (0 ≤ p1.toInt ∧ p1.toInt < (u.1 2).toInt) ∧ ¬ (0 ≤ p2.toInt ∧ p2.toInt ≤ 2)) ∨ ((u27_.1 0).toInt = 3 ∧ (0 ≤ p1.toInt ∧ p1.toInt < (u.1 2).toInt) ∧ (0 ≤ p2.toInt ∧ p2.toInt ≤ 2) ∧ ¬ (¬ (u.2 16 p1.toNatClampNeg).toInt = p2.toInt ∧ ¬ (u.2 16 p1.toNatClampNeg).toInt = 3)) ∨ ((u27_.1 0).toInt = 0 ∧ (0 ≤ p1.toInt ∧ p1.toInt < (u.1 2).toInt) ∧ (0 ≤ p2.toInt ∧ p2.toInt ≤ 2) ∧ (¬ (u.2 16 p1.toNatClampNeg).toInt = p2.toInt ∧ ¬ (u.2 16 p1.toNatClampNeg).toInt = 3)); omega), (fun q => absurd q (by omega)), (fun _ => ⟨_, by rw [eu27_]⟩)⟩)
      · refine okk_ck (vp_I (by omega) (by omega)) ?_
        try have t32_ : (3 : Int32).toInt = (3 : Int) := (by decide : (3 : Int32).toInt = 3)
        refine okk_ne (fun c31_ c31_I => ?_) (fun c31_ c31_I => ?_)
        · unfold fm_state_59
          obtain ⟨u33_, eu33_⟩ : ∃ y, y = g_sI u 0 (2 : Int32) := ⟨_, rfl⟩
          refine okk_bs (v := ((1 : Int32), u33_)) (by rw [eu33_]; exact fm_thr_2 _ _) ?_
          dsimp only
          have Iu33_ : IM g u33_ := by rw [eu33_]; exact IM_ix I _ (by decide)
          have h034_ : (u33_.1 0).toInt = 2 := by rw [eu33_, rdI, if_pos rfl]; decide
          have z35_ : (u33_.1 1).toInt = (u.1 1).toInt := by rw [eu33_]; rfl
          have z36_ : (u33_.1 2).toInt = (u.1 2).toInt := by rw [eu33_]; rfl
          refine okk_f (by decide) ?_
          exact okk_some (⟨Iu33_, (by show ((u33_.1 0).toInt = 1 ∧ ¬ (0 ≤ p1.toInt ∧ p1.toInt < (u.1 2).toInt)) ∨ ((u33_.1 0).toInt = 2 ∧ (0 ≤ p1.toInt ∧ p1.toInt < (u.1 2).toInt) ∧ ¬ (0 ≤ p2.toInt ∧ p2.toInt ≤ 2)) ∨ ((u33_.1 0).toInt = 3 ∧ (0 ≤ p1.toInt ∧ p1.toInt < (u.1 2).toInt) ∧ (0 ≤ p2.toInt ∧ p2.toInt ≤ 2) ∧ ¬ (¬ (u.2 16 p1.toNatClampNeg).toInt = p2.toInt ∧ ¬ (u.2 16 p1.toNatClampNeg).toInt = 3)) ∨ ((u33_.1 0).toInt = 0 ∧ (0 ≤ p1.toInt ∧ p1.toInt < (u.1 2).toInt) ∧ (0 ≤ p2.toInt ∧ p2.toInt ≤ 2) ∧ (¬ (u.2 16 p1.toNatClampNeg).toInt = p2.toInt ∧ ¬ (u.2 16 p1.toNatClampNeg).toInt = 3)); omega), (fun q => absurd q (by omega)), (fun _ => ⟨_, by rw [eu33_]⟩)⟩)
        · unfold fm_state_59
          obtain ⟨u37_, eu37_⟩ : ∃ y, y = g_sI u 0 (2 : Int32) := ⟨_, rfl⟩
          refine okk_bs (v := ((1 : Int32), u37_)) (by rw [eu37_]; exact fm_thr_2 _ _) ?_
          dsimp only
          have Iu37_ : IM g u37_ := by rw [eu37_]; exact IM_ix I _ (by decide)
          have h038_ : (u37_.1 0).toInt = 2 := by rw [eu37_, rdI, if_pos rfl]; decide
          have z39_ : (u37_.1 1).toInt = (u.1 1).toInt := by rw [eu37_]; rfl
          have z40_ : (u37_.1 2).toInt = (u.1 2).toInt := by rw [eu37_]; rfl
          refine okk_f (by decide) ?_
          exact okk_some (⟨Iu37_, (by show ((u37_.1 0).toInt = 1 ∧ ¬ (0 ≤ p1.toInt ∧ p1.toInt < (u.1 2).toInt)) ∨ ((u37_.1 0).toInt = 2 ∧ (0 ≤ p1.toInt ∧ p1.toInt < (u.1 2).toInt) ∧ ¬ (0 ≤ p2.toInt ∧ p2.toInt ≤ 2)) ∨ ((u37_.1 0).toInt = 3 ∧ (0 ≤ p1.toInt ∧ p1.toInt < (u.1 2).toInt) ∧ (0 ≤ p2.toInt ∧ p2.toInt ≤ 2) ∧ ¬ (¬ (u.2 16 p1.toNatClampNeg).toInt = p2.toInt ∧ ¬ (u.2 16 p1.toNatClampNeg).toInt = 3)) ∨ ((u37_.1 0).toInt = 0 ∧ (0 ≤ p1.toInt ∧ p1.toInt < (u.1 2).toInt) ∧ (0 ≤ p2.toInt ∧ p2.toInt ≤ 2) ∧ (¬ (u.2 16 p1.toNatClampNeg).toInt = p2.toInt ∧ ¬ (u.2 16 p1.toNatClampNeg).toInt = 3)); omega), (fun q => absurd q (by omega)), (fun _ => ⟨_, by rw [eu37_]⟩)⟩)
  · have t41_ : ((u.1 2) - (1 : Int32)).toInt = ((u.1 2).toInt - (1 : Int)) := (oi_sub (a := (u.1 2)) (b := (1 : Int32)) rfl (by decide : (1 : Int32).toInt = 1) (by omega) (by omega))
    refine okk_f (by decide) ?_
    unfold fm_state_16
    try have t42_ : (0 : Int32).toInt = (0 : Int) := (by decide : (0 : Int32).toInt = 0)
    try have t43_ : (2 : Int32).toInt = (2 : Int) := (by decide : (2 : Int32).toInt = 2)
    refine okk_in (fun b44_ => ?_) (fun b44_ => ?_)
    · refine okk_t (by decide) ?_
      unfold fm_state_30
      refine okk_t (by decide) ?_
      unfold fm_state_59
      obtain ⟨u45_, eu45_⟩ : ∃ y, y = g_sI u 0 (1 : Int32) := ⟨_, rfl⟩
      refine okk_bs (v := ((1 : Int32), u45_)) (by rw [eu45_]; exact fm_thr_1 _ _ _) ?_
      dsimp only
      have Iu45_ : IM g u45_ := by rw [eu45_]; exact IM_ix I _ (by decide)
      have h046_ : (u45_.1 0).toInt = 1 := by rw [eu45_, rdI, if_pos rfl]; decide
      have z47_ : (u45_.1 1).toInt = (u.1 1).toInt := by rw [eu45_]; rfl
      have z48_ : (u45_.1 2).toInt = (u.1 2).toInt := by rw [eu45_]; rfl
      refine okk_f (by decide) ?_
      exact okk_some (⟨Iu45_, (by show ((u45_.1 0).toInt = 1 ∧ ¬ (0 ≤ p1.toInt ∧ p1.toInt < (u.1 2).toInt)) ∨ ((u45_.1 0).toInt = 2 ∧ (0 ≤ p1.toInt ∧ p1.toInt < (u.1 2).toInt) ∧ ¬ (0 ≤ p2.toInt ∧ p2.toInt ≤ 2)) ∨ ((u45_.1 0).toInt = 3 ∧ (0 ≤ p1.toInt ∧ p1.toInt < (u.1 2).toInt) ∧ (0 ≤ p2.toInt ∧ p2.toInt ≤ 2) ∧ ¬ (¬ (u.2 16 p1.toNatClampNeg).toInt = p2.toInt ∧ ¬ (u.2 16 p1.toNatClampNeg).toInt = 3)) ∨ ((u45_.1 0).toInt = 0 ∧ (0 ≤ p1.toInt ∧ p1.toInt < (u.1 2).toInt) ∧ (0 ≤ p2.toInt ∧ p2.toInt ≤ 2) ∧ (¬ (u.2 16 p1.toNatClampNeg).toInt = p2.toInt ∧ ¬ (u.2 16 p1.toNatClampNeg).toInt = 3)); omega), (fun q => absurd q (by omega)), (fun _ => ⟨_, by rw [eu45_]⟩)⟩)
    · refine okk_f (by decide) ?_
      unfold fm_state_30
      refine okk_t (by decide) ?_
      unfold fm_state_59
      obtain ⟨u49_, eu49_⟩ : ∃ y, y = g_sI u 0 (1 : Int32) := ⟨_, rfl⟩
      refine okk_bs (v := ((1 : Int32), u49_)) (by rw [eu49_]; exact fm_thr_1 _ _ _) ?_
      dsimp only
      have Iu49_ : IM g u49_ := by rw [eu49_]; exact IM_ix I _ (by decide)
      have h050_ : (u49_.1 0).toInt = 1 := by rw [eu49_, rdI, if_pos rfl]; decide
      have z51_ : (u49_.1 1).toInt = (u.1 1).toInt := by rw [eu49_]; rfl
      have z52_ : (u49_.1 2).toInt = (u.1 2).toInt := by rw [eu49_]; rfl
      refine okk_f (by decide) ?_
      exact okk_some (⟨Iu49_, (by show ((u49_.1 0).toInt = 1 ∧ ¬ (0 ≤ p1.toInt ∧ p1.toInt < (u.1 2).toInt)) ∨ ((u49_.1 0).toInt = 2 ∧ (0 ≤ p1.toInt ∧ p1.toInt < (u.1 2).toInt) ∧ ¬ (0 ≤ p2.toInt ∧ p2.toInt ≤ 2)) ∨ ((u49_.1 0).toInt = 3 ∧ (0 ≤ p1.toInt ∧ p1.toInt < (u.1 2).toInt) ∧ (0 ≤ p2.toInt ∧ p2.toInt ≤ 2) ∧ ¬ (¬ (u.2 16 p1.toNatClampNeg).toInt = p2.toInt ∧ ¬ (u.2 16 p1.toNatClampNeg).toInt = 3)) ∨ ((u49_.1 0).toInt = 0 ∧ (0 ≤ p1.toInt ∧ p1.toInt < (u.1 2).toInt) ∧ (0 ≤ p2.toInt ∧ p2.toInt ≤ 2) ∧ (¬ (u.2 16 p1.toNatClampNeg).toInt = p2.toInt ∧ ¬ (u.2 16 p1.toNatClampNeg).toInt = 3)); omega), (fun q => absurd q (by omega)), (fun _ => ⟨_, by rw [eu49_]⟩)⟩)
set_option maxHeartbeats 4000000 in
theorem okl_fcJ_needCallData {g : Nat → Int32} {u : g_S} (I : IC g u) {p1 : Int32} {p2 : Int32} {p3 : Int32} {p4 : Int32} {p5 : Int32} : okk (fcJ_needCallData u p1 p2 p3 p4 p5) (fun r => ((r = 1 ∧ ¬ ((0 ≤ p2.toInt ∧ p2.toInt ≤ 7) ∧ -1 ≤ p4.toInt ∧ p4.toInt ≤ 7)) ∨ (r = 2 ∧ ((0 ≤ p2.toInt ∧ p2.toInt ≤ 7) ∧ -1 ≤ p4.toInt ∧ p4.toInt ≤ 7) ∧ ¬ ((0 ≤ p1.toInt ∧ p1.toInt ≤ 999) ∧ (-1 ≤ p3.toInt ∧ p3.toInt ≤ 99999999) ∧ (latV u).toInt ≤ p5.toInt)) ∨ (r = 0 ∧ ((0 ≤ p2.toInt ∧ p2.toInt ≤ 7) ∧ -1 ≤ p4.toInt ∧ p4.toInt ≤ 7) ∧ ((0 ≤ p1.toInt ∧ p1.toInt ≤ 999) ∧ (-1 ≤ p3.toInt ∧ p3.toInt ≤ 99999999) ∧ (latV u).toInt ≤ p5.toInt)))) := by
  unfold fcJ_needCallData
  have z1_ := IC_s I
  try have t2_ : (8 : Int32).toInt = (8 : Int) := (by decide : (8 : Int32).toInt = 8)
  refine okk_isBelow (fun b3_ => ?_) (fun b3_ => ?_)
  · refine okk_bs (v := (0 : Nat)) (by decide) ?_
    refine okk_t (by decide) ?_
    try have t5_ : (-1 : Int32).toInt = (-1 : Int) := (by decide : (-1 : Int32).toInt = -1)
    refine okk_eq (fun c4_ c4_I => ?_) (fun c4_ c4_I => ?_)
    · unfold fcJ_needCallData_30
      refine okk_bs (v := (0 : Nat)) (by decide) ?_
      refine okk_t (by decide) ?_
      try have t6_ : (1000 : Int32).toInt = (1000 : Int) := (by decide : (1000 : Int32).toInt = 1000)
      refine okk_isBelow (fun b7_ => ?_) (fun b7_ => ?_)
      · refine okk_bs (v := (0 : Nat)) (by decide) ?_
        refine okk_t (by decide) ?_
        refine okk_eq (fun c8_ c8_I => ?_) (fun c8_ c8_I => ?_)
        · unfold fcJ_needCallData_62
          refine okk_bs (v := (0 : Nat)) (by decide) ?_
          refine okk_t (by decide) ?_
          refine okk_bi (okl_fcA_latestTime I) (fun v9_ hv9_ => ?_)
          have p10_ := hv9_
          refine okk_lt (fun c11_ c11_I => ?_) (fun c11_ c11_I => ?_)
          · refine okk_bs (v := (2 : Nat)) (by decide) ?_
            refine okk_f (by decide) ?_
            exact okk_some ((by show (2 = 1 ∧ ¬ ((0 ≤ p2.toInt ∧ p2.toInt ≤ 7) ∧ -1 ≤ p4.toInt ∧ p4.toInt ≤ 7)) ∨ (2 = 2 ∧ ((0 ≤ p2.toInt ∧ p2.toInt ≤ 7) ∧ -1 ≤ p4.toInt ∧ p4.toInt ≤ 7) ∧ ¬ ((0 ≤ p1.toInt ∧ p1.toInt ≤ 999) ∧ (-1 ≤ p3.toInt ∧ p3.toInt ≤ 99999999) ∧ (latV u).toInt ≤ p5.toInt)) ∨ (2 = 0 ∧ ((0 ≤ p2.toInt ∧ p2.toInt ≤ 7) ∧ -1 ≤ p4.toInt ∧ p4.toInt ≤ 7) ∧ ((0 ≤ p1.toInt ∧ p1.toInt ≤ 999) ∧ (-1 ≤ p3.toInt ∧ p3.toInt ≤ 99999999) ∧ (latV u).toInt ≤ p5.toInt)); omega))
          · refine okk_bs (v := (0 : Nat)) (by decide) ?_
            refine okk_t (by decide) ?_
            exact okk_some ((by show (0 = 1 ∧ ¬ ((0 ≤ p2.toInt ∧ p2.toInt ≤ 7) ∧ -1 ≤ p4.toInt ∧ p4.toInt ≤ 7)) ∨ (0 = 2 ∧ ((0 ≤ p2.toInt ∧ p2.toInt ≤ 7) ∧ -1 ≤ p4.toInt ∧ p4.toInt ≤ 7) ∧ ¬ ((0 ≤ p1.toInt ∧ p1.toInt ≤ 999) ∧ (-1 ≤ p3.toInt ∧ p3.toInt ≤ 99999999) ∧ (latV u).toInt ≤ p5.toInt)) ∨ (0 = 0 ∧ ((0 ≤ p2.toInt ∧ p2.toInt ≤ 7) ∧ -1 ≤ p4.toInt ∧ p4.toInt ≤ 7) ∧ ((0 ≤ p1.toInt ∧ p1.toInt ≤ 999) ∧ (-1 ≤ p3.toInt ∧ p3.toInt ≤ 99999999) ∧ (latV u).toInt ≤ p5.toInt)); omega))
        · try have t12_ : (100000000 : Int32).toInt = (100000000 : Int) := (by decide : (100000000 : Int32).toInt = 100000000)
          refine okk_isBelow (fun b13_ => ?_) (fun b13_ => ?_)
          · refine okk_f (by decide) ?_
            unfold fcJ_needCallData_62
            refine okk_bs (v := (0 : Nat)) (by decide) ?_
            refine okk_t (by decide) ?_
            refine okk_bi (okl_fcA_latestTime I) (fun v14_ hv14_ => ?_)
            have p15_ := hv14_
            refine okk_lt (fun c16_ c16_I => ?_) (fun c16_ c16_I => ?_)
            · refine okk_bs (v := (2 : Nat)) (by decide) ?_
              refine okk_f (by decide) ?_
              exact okk_some ((by show (2 = 1 ∧ ¬ ((0 ≤ p2.toInt ∧ p2.toInt ≤ 7) ∧ -1 ≤ p4.toInt ∧ p4.toInt ≤ 7)) ∨ (2 = 2 ∧ ((0 ≤ p2.toInt ∧ p2.toInt ≤ 7) ∧ -1 ≤ p4.toInt ∧ p4.toInt ≤ 7) ∧ ¬ ((0 ≤ p1.toInt ∧ p1.toInt ≤ 999) ∧ (-1 ≤ p3.toInt ∧ p3.toInt ≤ 99999999) ∧ (latV u).toInt ≤ p5.toInt)) ∨ (2 = 0 ∧ ((0 ≤ p2.toInt ∧ p2.toInt ≤ 7) ∧ -1 ≤ p4.toInt ∧ p4.toInt ≤ 7) ∧ ((0 ≤ p1.toInt ∧ p1.toInt ≤ 999) ∧ (-1 ≤ p3.toInt ∧ p3.toInt ≤ 99999999) ∧ (latV u).toInt ≤ p5.toInt)); omega))
            · refine okk_bs (v := (0 : Nat)) (by decide) ?_
              refine okk_t (by decide) ?_
              exact okk_some ((by show (0 = 1 ∧ ¬ ((0 ≤ p2.toInt ∧ p2.toInt ≤ 7) ∧ -1 ≤ p4.toInt ∧ p4.toInt ≤ 7)) ∨ (0 = 2 ∧ ((0 ≤ p2.toInt ∧ p2.toInt ≤ 7) ∧ -1 ≤ p4.toInt ∧ p4.toInt ≤ 7) ∧ ¬ ((0 ≤ p1.toInt ∧ p1.toInt ≤ 999) ∧ (-1 ≤ p3.toInt ∧ p3.toInt ≤ 99999999) ∧ (latV u).toInt ≤ p5.toInt)) ∨ (0 = 0 ∧ ((0 ≤ p2.toInt ∧ p2.toInt ≤ 7) ∧ -1 ≤ p4.toInt ∧ p4.toInt ≤ 7) ∧ ((0 ≤ p1.toInt ∧ p1.toInt ≤ 999) ∧ (-1 ≤ p3.toInt ∧ p3.toInt ≤ 99999999) ∧ (latV u).toInt ≤ p5.toInt)); omega))
          · refine okk_t (by decide) ?_
            unfold fcJ_needCallData_62
            refine okk_bs (v := (2 : Nat)) (by decide) ?_
            refine okk_f (by decide) ?_
            exact okk_some ((by show (2 = 1 ∧ ¬ ((0 ≤ p2.toInt ∧ p2.toInt ≤ 7) ∧ -1 ≤ p4.toInt ∧ p4.toInt ≤ 7)) ∨ (2 = 2 ∧ ((0 ≤ p2.toInt ∧ p2.toInt ≤ 7) ∧ -1 ≤ p4.toInt ∧ p4.toInt ≤ 7) ∧ ¬ ((0 ≤ p1.toInt ∧ p1.toInt ≤ 999) ∧ (-1 ≤ p3.toInt ∧ p3.toInt ≤ 99999999) ∧ (latV u).toInt ≤ p5.toInt)) ∨ (2 = 0 ∧ ((0 ≤ p2.toInt ∧ p2.toInt ≤ 7) ∧ -1 ≤ p4.toInt ∧ p4.toInt ≤ 7) ∧ ((0 ≤ p1.toInt ∧ p1.toInt ≤ 999) ∧ (-1 ≤ p3.toInt ∧ p3.toInt ≤ 99999999) ∧ (latV u).toInt ≤ p5.toInt)); omega))
      · refine okk_bs (v := (2 : Nat)) (by decide) ?_
        refine okk_f (by decide) ?_
        exact okk_some ((by show (2 = 1 ∧ ¬ ((0 ≤ p2.toInt ∧ p2.toInt ≤ 7) ∧ -1 ≤ p4.toInt ∧ p4.toInt ≤ 7)) ∨ (2 = 2 ∧ ((0 ≤ p2.toInt ∧ p2.toInt ≤ 7) ∧ -1 ≤ p4.toInt ∧ p4.toInt ≤ 7) ∧ ¬ ((0 ≤ p1.toInt ∧ p1.toInt ≤ 999) ∧ (-1 ≤ p3.toInt ∧ p3.toInt ≤ 99999999) ∧ (latV u).toInt ≤ p5.toInt)) ∨ (2 = 0 ∧ ((0 ≤ p2.toInt ∧ p2.toInt ≤ 7) ∧ -1 ≤ p4.toInt ∧ p4.toInt ≤ 7) ∧ ((0 ≤ p1.toInt ∧ p1.toInt ≤ 999) ∧ (-1 ≤ p3.toInt ∧ p3.toInt ≤ 99999999) ∧ (latV u).toInt ≤ p5.toInt)); omega))
    · refine okk_isBelow (fun b17_ => ?_) (fun b17_ => ?_)
      · refine okk_f (by decide) ?_
        unfold fcJ_needCallData_30
        refine okk_bs (v := (0 : Nat)) (by decide) ?_
        refine okk_t (by decide) ?_
        try have t18_ : (1000 : Int32).toInt = (1000 : Int) := (by decide : (1000 : Int32).toInt = 1000)
        refine okk_isBelow (fun b19_ => ?_) (fun b19_ => ?_)
        · refine okk_bs (v := (0 : Nat)) (by decide) ?_
          refine okk_t (by decide) ?_
          refine okk_eq (fun c20_ c20_I => ?_) (fun c20_ c20_I => ?_)
          · unfold fcJ_needCallData_62
            refine okk_bs (v := (0 : Nat)) (by decide) ?_
            refine okk_t (by decide) ?_
            refine okk_bi (okl_fcA_latestTime I) (fun v21_ hv21_ => ?_)
            have p22_ := hv21_
            refine okk_lt (fun c23_ c23_I => ?_) (fun c23_ c23_I => ?_)
            · refine okk_bs (v := (2 : Nat)) (by decide) ?_
              refine okk_f (by decide) ?_
              exact okk_some ((by show (2 = 1 ∧ ¬ ((0 ≤ p2.toInt ∧ p2.toInt ≤ 7) ∧ -1 ≤ p4.toInt ∧ p4.toInt ≤ 7)) ∨ (2 = 2 ∧ ((0 ≤ p2.toInt ∧ p2.toInt ≤ 7) ∧ -1 ≤ p4.toInt ∧ p4.toInt ≤ 7) ∧ ¬ ((0 ≤ p1.toInt ∧ p1.toInt ≤ 999) ∧ (-1 ≤ p3.toInt ∧ p3.toInt ≤ 99999999) ∧ (latV u).toInt ≤ p5.toInt)) ∨ (2 = 0 ∧ ((0 ≤ p2.toInt ∧ p2.toInt ≤ 7) ∧ -1 ≤ p4.toInt ∧ p4.toInt ≤ 7) ∧ ((0 ≤ p1.toInt ∧ p1.toInt ≤ 999) ∧ (-1 ≤ p3.toInt ∧ p3.toInt ≤ 99999999) ∧ (latV u).toInt ≤ p5.toInt)); omega))
            · refine okk_bs (v := (0 : Nat)) (by decide) ?_
              refine okk_t (by decide) ?_
              exact okk_some ((by show (0 = 1 ∧ ¬ ((0 ≤ p2.toInt ∧ p2.toInt ≤ 7) ∧ -1 ≤ p4.toInt ∧ p4.toInt ≤ 7)) ∨ (0 = 2 ∧ ((0 ≤ p2.toInt ∧ p2.toInt ≤ 7) ∧ -1 ≤ p4.toInt ∧ p4.toInt ≤ 7) ∧ ¬ ((0 ≤ p1.toInt ∧ p1.toInt ≤ 999) ∧ (-1 ≤ p3.toInt ∧ p3.toInt ≤ 99999999) ∧ (latV u).toInt ≤ p5.toInt)) ∨ (0 = 0 ∧ ((0 ≤ p2.toInt ∧ p2.toInt ≤ 7) ∧ -1 ≤ p4.toInt ∧ p4.toInt ≤ 7) ∧ ((0 ≤ p1.toInt ∧ p1.toInt ≤ 999) ∧ (-1 ≤ p3.toInt ∧ p3.toInt ≤ 99999999) ∧ (latV u).toInt ≤ p5.toInt)); omega))
          · try have t24_ : (100000000 : Int32).toInt = (100000000 : Int) := (by decide : (100000000 : Int32).toInt = 100000000)
            refine okk_isBelow (fun b25_ => ?_) (fun b25_ => ?_)
            · refine okk_f (by decide) ?_
              unfold fcJ_needCallData_62
              refine okk_bs (v := (0 : Nat)) (by decide) ?_
              refine okk_t (by decide) ?_
              refine okk_bi (okl_fcA_latestTime I) (fun v26_ hv26_ => ?_)
              have p27_ := hv26_
              refine okk_lt (fun c28_ c28_I => ?_) (fun c28_ c28_I => ?_)
              · refine okk_bs (v := (2 : Nat)) (by decide) ?_
                refine okk_f (by decide) ?_
                exact okk_some ((by show (2 = 1 ∧ ¬ ((0 ≤ p2.toInt ∧ p2.toInt ≤ 7) ∧ -1 ≤ p4.toInt ∧ p4.toInt ≤ 7)) ∨ (2 = 2 ∧ ((0 ≤ p2.toInt ∧ p2.toInt ≤ 7) ∧ -1 ≤ p4.toInt ∧ p4.toInt ≤ 7) ∧ ¬ ((0 ≤ p1.toInt ∧ p1.toInt ≤ 999) ∧ (-1 ≤ p3.toInt ∧ p3.toInt ≤ 99999999) ∧ (latV u).toInt ≤ p5.toInt)) ∨ (2 = 0 ∧ ((0 ≤ p2.toInt ∧ p2.toInt ≤ 7) ∧ -1 ≤ p4.toInt ∧ p4.toInt ≤ 7) ∧ ((0 ≤ p1.toInt ∧ p1.toInt ≤ 999) ∧ (-1 ≤ p3.toInt ∧ p3.toInt ≤ 99999999) ∧ (latV u).toInt ≤ p5.toInt)); omega))
              · refine okk_bs (v := (0 : Nat)) (by decide) ?_
                refine okk_t (by decide) ?_
                exact okk_some ((by show (0 = 1 ∧ ¬ ((0 ≤ p2.toInt ∧ p2.toInt ≤ 7) ∧ -1 ≤ p4.toInt ∧ p4.toInt ≤ 7)) ∨ (0 = 2 ∧ ((0 ≤ p2.toInt ∧ p2.toInt ≤ 7) ∧ -1 ≤ p4.toInt ∧ p4.toInt ≤ 7) ∧ ¬ ((0 ≤ p1.toInt ∧ p1.toInt ≤ 999) ∧ (-1 ≤ p3.toInt ∧ p3.toInt ≤ 99999999) ∧ (latV u).toInt ≤ p5.toInt)) ∨ (0 = 0 ∧ ((0 ≤ p2.toInt ∧ p2.toInt ≤ 7) ∧ -1 ≤ p4.toInt ∧ p4.toInt ≤ 7) ∧ ((0 ≤ p1.toInt ∧ p1.toInt ≤ 999) ∧ (-1 ≤ p3.toInt ∧ p3.toInt ≤ 99999999) ∧ (latV u).toInt ≤ p5.toInt)); omega))
            · refine okk_t (by decide) ?_
              unfold fcJ_needCallData_62
              refine okk_bs (v := (2 : Nat)) (by decide) ?_
              refine okk_f (by decide) ?_
              exact okk_some ((by show (2 = 1 ∧ ¬ ((0 ≤ p2.toInt ∧ p2.toInt ≤ 7) ∧ -1 ≤ p4.toInt ∧ p4.toInt ≤ 7)) ∨ (2 = 2 ∧ ((0 ≤ p2.toInt ∧ p2.toInt ≤ 7) ∧ -1 ≤ p4.toInt ∧ p4.toInt ≤ 7) ∧ ¬ ((0 ≤ p1.toInt ∧ p1.toInt ≤ 999) ∧ (-1 ≤ p3.toInt ∧ p3.toInt ≤ 99999999) ∧ (latV u).toInt ≤ p5.toInt)) ∨ (2 = 0 ∧ ((0 ≤ p2.toInt ∧ p2.toInt ≤ 7) ∧ -1 ≤ p4.toInt ∧ p4.toInt ≤ 7) ∧ ((0 ≤ p1.toInt ∧ p1.toInt ≤ 999) ∧ (-1 ≤ p3.toInt ∧ p3.toInt ≤ 99999999) ∧ (latV u).toInt ≤ p5.toInt)); omega))
        · refine okk_bs (v := (2 : Nat)) (by decide) ?_
          refine okk_f (by decide) ?_
          exact okk_some ((by show (2 = 1 ∧ ¬ ((0 ≤ p2.toInt ∧ p2.toInt ≤ 7) ∧ -1 ≤ p4.toInt ∧ p4.toInt ≤ 7)) ∨ (2 = 2 ∧ ((0 ≤ p2.toInt ∧ p2.toInt ≤ 7) ∧ -1 ≤ p4.toInt ∧ p4.toInt ≤ 7) ∧ ¬ ((0 ≤ p1.toInt ∧ p1.toInt ≤ 999) ∧ (-1 ≤ p3.toInt ∧ p3.toInt ≤ 99999999) ∧ (latV u).toInt ≤ p5.toInt)) ∨ (2 = 0 ∧ ((0 ≤ p2.toInt ∧ p2.toInt ≤ 7) ∧ -1 ≤ p4.toInt ∧ p4.toInt ≤ 7) ∧ ((0 ≤ p1.toInt ∧ p1.toInt ≤ 999) ∧ (-1 ≤ p3.toInt ∧ p3.toInt ≤ 99999999) ∧ (latV u).toInt ≤ p5.toInt)); omega))
      · refine okk_t (by decide) ?_
        unfold fcJ_needCallData_30
        refine okk_bs (v := (1 : Nat)) (by decide) ?_
        refine okk_f (by decide) ?_
        exact okk_some ((by show (1 = 1 ∧ ¬ ((0 ≤ p2.toInt ∧ p2.toInt ≤ 7) ∧ -1 ≤ p4.toInt ∧ p4.toInt ≤ 7)) ∨ (1 = 2 ∧ ((0 ≤ p2.toInt ∧ p2.toInt ≤ 7) ∧ -1 ≤ p4.toInt ∧ p4.toInt ≤ 7) ∧ ¬ ((0 ≤ p1.toInt ∧ p1.toInt ≤ 999) ∧ (-1 ≤ p3.toInt ∧ p3.toInt ≤ 99999999) ∧ (latV u).toInt ≤ p5.toInt)) ∨ (1 = 0 ∧ ((0 ≤ p2.toInt ∧ p2.toInt ≤ 7) ∧ -1 ≤ p4.toInt ∧ p4.toInt ≤ 7) ∧ ((0 ≤ p1.toInt ∧ p1.toInt ≤ 999) ∧ (-1 ≤ p3.toInt ∧ p3.toInt ≤ 99999999) ∧ (latV u).toInt ≤ p5.toInt)); omega))
  · refine okk_bs (v := (1 : Nat)) (by decide) ?_
    refine okk_f (by decide) ?_
    exact okk_some ((by show (1 = 1 ∧ ¬ ((0 ≤ p2.toInt ∧ p2.toInt ≤ 7) ∧ -1 ≤ p4.toInt ∧ p4.toInt ≤ 7)) ∨ (1 = 2 ∧ ((0 ≤ p2.toInt ∧ p2.toInt ≤ 7) ∧ -1 ≤ p4.toInt ∧ p4.toInt ≤ 7) ∧ ¬ ((0 ≤ p1.toInt ∧ p1.toInt ≤ 999) ∧ (-1 ≤ p3.toInt ∧ p3.toInt ≤ 99999999) ∧ (latV u).toInt ≤ p5.toInt)) ∨ (1 = 0 ∧ ((0 ≤ p2.toInt ∧ p2.toInt ≤ 7) ∧ -1 ≤ p4.toInt ∧ p4.toInt ≤ 7) ∧ ((0 ≤ p1.toInt ∧ p1.toInt ≤ 999) ∧ (-1 ≤ p3.toInt ∧ p3.toInt ≤ 99999999) ∧ (latV u).toInt ≤ p5.toInt)); omega))
set_option maxHeartbeats 4000000 in
theorem okl_fm_isKnown {p0 : Int32} {p1 : Int32} : okk (fm_isKnown p0 p1) (fun r => ((r.toInt = 1 ∧ (0 ≤ p0.toInt ∧ p0.toInt ≤ 7) ∧ -1 ≤ p1.toInt ∧ p1.toInt ≤ 7) ∨ (r.toInt = 0 ∧ ¬ ((0 ≤ p0.toInt ∧ p0.toInt ≤ 7) ∧ -1 ≤ p1.toInt ∧ p1.toInt ≤ 7)))) := by
  unfold fm_isKnown
  refine okk_isKind (fun b1_ => ?_) (fun b1_ => ?_)
  · refine okk_f (by decide) ?_
    try have t2_ : (-1 : Int32).toInt = (-1 : Int) := (by decide : (-1 : Int32).toInt = -1)
    try have t3_ : (7 : Int32).toInt = (7 : Int) := (by decide : (7 : Int32).toInt = 7)
    refine okk_in (fun b4_ => ?_) (fun b4_ => ?_)
    · refine okk_f (by decide) ?_
      try have t5_ : (1 : Int32).toInt = (1 : Int) := (by decide : (1 : Int32).toInt = 1)
      exact okk_some ((by show ((1 : Int32).toInt = 1 ∧ (0 ≤ p0.toInt ∧ p0.toInt ≤ 7) ∧ -1 ≤ p1.toInt ∧ p1.toInt ≤ 7) ∨ ((1 : Int32).toInt = 0 ∧ ¬ ((0 ≤ p0.toInt ∧ p0.toInt ≤ 7) ∧ -1 ≤ p1.toInt ∧ p1.toInt ≤ 7)); omega))
    · refine okk_t (by decide) ?_
      try have t6_ : (0 : Int32).toInt = (0 : Int) := (by decide : (0 : Int32).toInt = 0)
      exact okk_some ((by show ((0 : Int32).toInt = 1 ∧ (0 ≤ p0.toInt ∧ p0.toInt ≤ 7) ∧ -1 ≤ p1.toInt ∧ p1.toInt ≤ 7) ∨ ((0 : Int32).toInt = 0 ∧ ¬ ((0 ≤ p0.toInt ∧ p0.toInt ≤ 7) ∧ -1 ≤ p1.toInt ∧ p1.toInt ≤ 7)); omega))
  · refine okk_t (by decide) ?_
    try have t7_ : (0 : Int32).toInt = (0 : Int) := (by decide : (0 : Int32).toInt = 0)
    exact okk_some ((by show ((0 : Int32).toInt = 1 ∧ (0 ≤ p0.toInt ∧ p0.toInt ≤ 7) ∧ -1 ≤ p1.toInt ∧ p1.toInt ≤ 7) ∨ ((0 : Int32).toInt = 0 ∧ ¬ ((0 ≤ p0.toInt ∧ p0.toInt ≤ 7) ∧ -1 ≤ p1.toInt ∧ p1.toInt ≤ 7)); omega))
end
section
def und (f : Nat → Int32) (top : Int32) : Nat → Int32 → Bool
  | 0, _ => false
  | n + 1, a => if a = -1 then false else if a = top then true else und f top n (f a.toNatClampNeg)
theorem und_s (f : Nat → Int32) (top : Int32) (n : Nat) (a : Int32) : und f top (n + 1) a = if a = -1 then false else if a = top then true else und f top n (f a.toNatClampNeg) := rfl
theorem und_m {f : Nat → Int32} {top : Int32} : ∀ {n : Nat} {a : Int32}, und f top n a = true → und f top (n + 1) a = true := by
  intro n
  induction n with
  | zero => intro a h; cases h
  | succ n ih =>
    intro a h
    rw [und_s] at h ⊢
    by_cases q : a = -1
    · rw [if_pos q] at h; cases h
    · rw [if_neg q] at h ⊢
      by_cases q2 : a = top
      · rw [if_pos q2]
      · rw [if_neg q2] at h ⊢; exact ih h
theorem und_le {f : Nat → Int32} {top : Int32} {n m : Nat} {a : Int32} (h : n ≤ m) (hu : und f top n a = true) : und f top m a = true := by
  induction m with
  | zero => obtain rfl : n = 0 := by omega
            exact hu
  | succ m ih =>
    rcases Nat.lt_or_ge n (m + 1) with q | q
    · exact und_m (ih (by omega))
    · obtain rfl : n = m + 1 := by omega
      exact hu
theorem und_c {f f' : Nat → Int32} {t : Nat} (ht : t < 2 ^ 31) (h : ∀ j, ¬ j = t → f j = f' j) : ∀ (n : Nat) (a : Int32), -1 ≤ a.toInt → (∀ j, -1 ≤ (f j).toInt) → und f (nI t) n a = und f' (nI t) n a := by
  have zm : (-1 : Int32).toInt = -1 := by decide
  intro n
  induction n with
  | zero => intro a _ _; rfl
  | succ n ih =>
    intro a ha hf
    rw [und_s, und_s]
    by_cases q : a = -1
    · rw [if_pos q, if_pos q]
    · rw [if_neg q, if_neg q]
      by_cases q2 : a = nI t
      · rw [if_pos q2, if_pos q2]
      · have hc : (a.toNatClampNeg : Int) = a.toInt := cl_I (by
          rcases Int.lt_or_le a.toInt 0 with y | y
          · exact absurd (Int32.toInt_inj.mp (by omega)) q
          · exact y)
        have hne : ¬ a.toNatClampNeg = t := fun y => q2 (Int32.toInt_inj.mp (by rw [nI_toInt ht]; omega))
        rw [if_neg q2, if_neg q2, h _ hne]
        rw [← h _ hne]
        exact ih _ (hf _) hf
section SPL
variable {g : Nat → Int32} {u w : g_S}
theorem under_c (hr : ∀ j : Nat, -1 ≤ (u.2 14 j).toInt ∧ (u.2 14 j).toInt ≤ 120) (top : Int32) : ∀ (j m : Nat) (a : Int32), j ≤ 120 → j < m → -1 ≤ a.toInt → a.toInt ≤ 120 → fcA_isUnder_5 u m top a (nI (120 - j)) = some (if und (u.2 14) top j a = true then (1 : Int32) else 0) := by
  have zm : (-1 : Int32).toInt = -1 := by decide
  intro j
  induction j with
  | zero =>
    intro m a _ hm _ _
    obtain ⟨m, rfl⟩ : ∃ m', m = m' + 1 := ⟨m - 1, by omega⟩
    rw [fcA_isUnder_5_s, if_pos (by decide)]; rfl
  | succ j ih =>
    intro m a hj hm h1 h2
    obtain ⟨m, rfl⟩ : ∃ m', m = m' + 1 := ⟨m - 1, by omega⟩
    have hlt : ¬ (120 : Int32) ≤ nI (120 - (j + 1)) := nI_ge (a := 120 - (j + 1)) (b := 120) (by omega) (by decide)
    rw [fcA_isUnder_5_s, if_neg hlt, und_s]
    by_cases q : a = -1
    · rw [if_pos q, if_pos q]; rfl
    · have h0 : 0 ≤ a.toInt := by
        rcases Int.lt_or_le a.toInt 0 with y | y
        · exact absurd (Int32.toInt_inj.mp (by omega)) q
        · exact y
      rw [if_neg q, if_neg q]
      by_cases q2 : a = top
      · rw [if_neg (fun y => y q2), if_pos q2]; rfl
      · rw [if_pos q2, if_neg q2, ck_in (vp_I h0 (by omega))]
        show fcA_isUnder_5 u m top (u.2 14 a.toNatClampNeg) (nI (120 - (j + 1)) + (1 : Int32)) = _
        rw [nI_1, show 120 - (j + 1) + 1 = 120 - j by omega]
        exact ih m _ (by omega) (by omega) (hr _).1 (hr _).2
def mvF (ev f : Nat → Int32) (top E : Int32) (n : Nat) : Nat → Int32 := fun d => if d < n ∧ und f top 120 (nI d) = true then E else ev d
def mvS (u : g_S) (top E : Int32) (n : Nat) : g_S := (u.1, va_up u.2 13 (mvF (u.2 13) (u.2 14) top E n))
theorem mvS_o (u : g_S) (top E : Int32) (n k : Nat) (h : ¬ k = 13) : (mvS u top E n).2 k = u.2 k := by
  show va_up u.2 13 _ k = _
  unfold va_up
  rw [if_neg h]
theorem mvS_13 (u : g_S) (top E : Int32) (n : Nat) : (mvS u top E n).2 13 = mvF (u.2 13) (u.2 14) top E n := by
  have h : va_up u.2 13 (mvF (u.2 13) (u.2 14) top E n) 13 = mvF (u.2 13) (u.2 14) top E n := by
    unfold va_up
    rw [if_pos rfl]
  exact h
theorem mvS_0 (u : g_S) (top E : Int32) : mvS u top E 0 = u := by
  have h : (mvS u top E 0).2 = u.2 := by
    funext k
    by_cases q : k = 13
    · rw [q, mvS_13]
      funext d
      unfold mvF
      rw [if_neg (fun y => by have := y.1; omega)]
    · exact mvS_o u top E 0 k q
  exact Prod.ext rfl h
theorem mvS_n {top E : Int32} {n : Nat} (hn : n < 2 ^ 31) (h : und (u.2 14) top 120 (nI n) = true) : g_sA (mvS u top E n) 13 (nI n) E = mvS u top E (n + 1) := by
  have h2 : (g_sA (mvS u top E n) 13 (nI n) E).2 = (mvS u top E (n + 1)).2 := by
    funext k
    by_cases q : k = 13
    · rw [q]
      funext d
      rw [rdA, mvS_13, mvS_13, nI_clamp hn]
      unfold mvF
      by_cases y : d = n
      · rw [if_pos ⟨rfl, y⟩, if_pos ⟨by omega, by rw [y]; exact h⟩]
      · rw [if_neg (fun z => y z.2)]
        by_cases z : d < n ∧ und (u.2 14) top 120 (nI d) = true
        · rw [if_pos z, if_pos ⟨by omega, z.2⟩]
        · rw [if_neg z, if_neg (fun x => z ⟨by omega, x.2⟩)]
    · rw [eqf_w 13 _ _ k q, mvS_o _ _ _ _ k q, mvS_o _ _ _ _ k q]
  exact Prod.ext rfl h2
theorem mvS_k {top E : Int32} {n : Nat} (h : ¬ und (u.2 14) top 120 (nI n) = true) : mvS u top E n = mvS u top E (n + 1) := by
  have h2 : (mvS u top E n).2 = (mvS u top E (n + 1)).2 := by
    funext k
    by_cases q : k = 13
    · rw [q, mvS_13, mvS_13]
      funext d
      unfold mvF
      by_cases z : d < n ∧ und (u.2 14) top 120 (nI d) = true
      · rw [if_pos z, if_pos ⟨by omega, z.2⟩]
      · rw [if_neg z, if_neg (fun x => z ⟨by
          have := x.1
          rcases Nat.lt_or_ge d n with y | y
          · exact y
          · obtain rfl : d = n := by omega
            exact absurd x.2 h, x.2⟩)]
    · rw [mvS_o _ _ _ _ k q, mvS_o _ _ _ _ k q]
  exact Prod.ext rfl h2
theorem move_c (hr : ∀ j : Nat, -1 ≤ (u.2 14 j).toInt ∧ (u.2 14 j).toInt ≤ 120) (top E : Int32) {N : Nat} (hN : u.1 0 = nI N) (hN2 : N ≤ 120) : ∀ (j m i : Nat), i + j = N → j < m → fcA_moveBranch_2 m (mvS u top E i) top E (nI i) = some (mvS u top E N) := by
  intro j
  induction j with
  | zero =>
    intro m i hi hm
    obtain ⟨m, rfl⟩ : ∃ m', m = m' + 1 := ⟨m - 1, by omega⟩
    obtain rfl : i = N := by omega
    rw [fcA_moveBranch_2_s, show (mvS u top E i).1 0 = nI i from hN, if_pos (nI_le (Nat.le_refl _) (by omega))]
  | succ j ih =>
    intro m i hi hm
    obtain ⟨m, rfl⟩ : ∃ m', m = m' + 1 := ⟨m - 1, by omega⟩
    rw [fcA_moveBranch_2_s, show (mvS u top E i).1 0 = nI N from hN, if_neg (nI_ge (by omega) (by omega))]
    have hu : fcA_isUnder (mvS u top E i) (nI i) top = some (if und (u.2 14) top 120 (nI i) = true then (1 : Int32) else 0) := by
      have h14 : (mvS u top E i).2 14 = u.2 14 := mvS_o u top E i 14 (by decide)
      have := under_c (u := mvS u top E i) (by rw [h14]; exact hr) top 120 200 (nI i) (Nat.le_refl _) (by decide) (by rw [nI_toInt (by omega)]; omega) (by rw [nI_toInt (by omega)]; omega)
      rw [h14] at this
      exact this
    rw [bi_s hu]
    by_cases q : und (u.2 14) top 120 (nI i) = true
    · rw [if_pos q, if_neg (by decide), ck_nI (n := 121) (by omega) (by decide)]
      show fcA_moveBranch_2 m (g_sA (mvS u top E i) 13 (nI i) E) top E (nI i + (1 : Int32)) = _
      rw [mvS_n (by omega) q, nI_1]
      exact ih m (i + 1) (by omega) (by omega)
    · rw [if_neg q, if_pos rfl, mvS_k q, nI_1]
      exact ih m (i + 1) (by omega) (by omega)
def trg (v : g_S) (E was : Int32) (d : Nat) : Prop := v.2 12 d = was ∧ 0 ≤ (v.2 13 d).toInt ∧ v.2 12 (v.2 13 d).toNatClampNeg = E
def LI (v0 : g_S) (top E was : Int32) (v : g_S) : Prop := v.1 = v0.1 ∧ (∀ k, ¬ k = 12 → v.2 k = v0.2 k) ∧ (∀ d : Nat, ¬ v.2 12 d = v0.2 12 d → v.2 12 d = E ∧ v0.2 12 d = was ∧ (d : Int) < (v0.1 1).toInt) ∧ ∀ d : Nat, (d : Int) < (v0.1 1).toInt → v.2 12 d = E → und (v0.2 13) top (120 - mu_ (v.2 12) was 120) (nI d) = true
theorem okl_s124 {v0 : g_S} {top E was : Int32} {k : g_S → Int32 → Int32 → Int32 → Option (Int32 × g_S)} {m : Nat} {Q : Int32 × g_S → Prop} (h4 : 0 ≤ E.toInt) (h5 : E.toInt ≤ 59) (hE : E.toInt < (v0.1 2).toInt) (hne : ¬ E = was) (hrs : ∀ d : Nat, (d : Int) < (v0.1 1).toInt → (v0.2 13 d).toInt < (v0.1 1).toInt) (hk : ∀ (v : g_S) (x6 : Int32), IM g v → LI v0 top E was v → ((x6 = 0 ∧ ∀ d : Nat, (d : Int) < (v0.1 1).toInt → ¬ trg v E was d) ∨ (x6 = 1 ∧ mu_ (v.2 12) was 120 < m)) → okk (k v E was x6) Q) :
    ∀ (n : Nat) (v : g_S) (x6 x7 : Int32), IM g v → LI v0 top E was v → 0 ≤ x7.toInt → x7.toInt ≤ 120 → 121 ≤ (n : Int) + x7.toInt → ((x6 = 0 ∧ mu_ (v.2 12) was 120 ≤ m ∧ ∀ d : Nat, (d : Int) < x7.toInt → ¬ trg v E was d) ∨ (x6 = 1 ∧ mu_ (v.2 12) was 120 < m)) → okk (fm_split_124 k n v E was x6 x7) Q := by
  have z0 : (0 : Int32).toInt = 0 := by decide
  intro n
  induction n with
  | zero =>
    intro v x6 x7 I hl h0 h1 hf hm
    exfalso; omega
  | succ n ih =>
    intro v x6 x7 I hl h0 h1 hf hm
    rw [fm_split_124_s]
    have z := IM_s I
    obtain ⟨l1, l2, l3, l4⟩ := id hl
    have e1 : (v.1 1).toInt = (v0.1 1).toInt := by rw [l1]
    have e2 : (v.1 2).toInt = (v0.1 2).toInt := by rw [l1]
    refine okk_le (fun c cI => ?_) (fun c cI => ?_)
    · exact hk v x6 I hl (hm.imp (fun q => ⟨q.1, fun d hd => q.2.2 d (by omega)⟩) id)
    · have t : (x7 + (1 : Int32)).toInt = x7.toInt + 1 := oi_add rfl (by decide) (by omega) (by omega)
      have hcl : (x7.toNatClampNeg : Int) = x7.toInt := cl_I (by omega)
      have hrec : ¬ trg v E was x7.toNatClampNeg → okk (fm_split_124 k n v E was x6 (x7 + (1 : Int32))) Q := fun hn => ih v x6 (x7 + (1 : Int32)) I hl (by omega) (by omega) (by omega) (hm.imp (fun q => ⟨q.1, q.2.1, fun d hd => by
        by_cases y : d = x7.toNatClampNeg
        · rw [y]; exact hn
        · exact q.2.2 d (by omega)⟩) id)
      have hr := IM_r13 I x7.toNatClampNeg
      refine okk_ck (vp_I (by omega) (by omega)) ?_
      refine okk_ne (fun d _ => hrec (fun y => d y.1)) (fun d dI => ?_)
      refine okk_ck (vp_I (by omega) (by omega)) ?_
      refine okk_lt (fun f fI => hrec (fun y => by have := y.2.1; omega)) (fun f fI => ?_)
      refine okk_ck (vp_I (by omega) (by omega)) ?_
      refine okk_ck (vp_I (by omega) (by omega)) ?_
      refine okk_ne (fun d2 _ => hrec (fun y => d2 y.2.2)) (fun d2 _ => ?_)
      refine okk_ck (vp_I (by omega) (by omega)) ?_
      refine okk_gl (fun u8 e8 => ?_)
      have I8 : IM g u8 := by rw [e8]; exact IM_w12c I _ _ h4 h5 (by omega) (by omega)
      have hd : mu_ (u8.2 12) was 120 + 1 = mu_ (v.2 12) was 120 := by
        rw [e8]
        refine mu_dec (v.2 12) _ was x7.toNatClampNeg d ?_ ?_ 120 (by omega)
        · rw [rdA, if_pos ⟨rfl, rfl⟩]; exact hne
        · intro j hj
          rw [rdA, if_neg (fun y => hj y.2)]
      have hm2 : mu_ (u8.2 12) was 120 < m := by
        rcases hm with q | q
        · have := q.2.1; omega
        · have := q.2; omega
      have hml := mu_le (v.2 12) was 120
      have hl8 : LI v0 top E was u8 := by
        refine ⟨by rw [e8]; exact l1, fun k hk => by rw [e8, eqf_w 12 _ _ k hk]; exact l2 k hk, fun q hq => ?_, fun q hq hqE => ?_⟩
        · rw [e8, rdA] at hq ⊢
          by_cases y : q = x7.toNatClampNeg
          · rw [if_pos ⟨rfl, y⟩]
            refine ⟨rfl, ?_, by rw [y]; omega⟩
            by_cases y2 : v.2 12 q = v0.2 12 q
            · rw [← y2, y]; exact d
            · have := (l3 q y2).1
              rw [y, d] at this
              exact absurd this.symm hne
          · rw [if_neg (fun z => y z.2)] at hq ⊢
            exact l3 q hq
        · have hn : 120 - mu_ (u8.2 12) was 120 = (120 - mu_ (v.2 12) was 120) + 1 := by omega
          rw [hn]
          by_cases y : q = x7.toNatClampNeg
          · have h13 : v.2 13 = v0.2 13 := l2 13 (by decide)
            have hc2 : ((v.2 13 x7.toNatClampNeg).toNatClampNeg : Int) = (v.2 13 x7.toNatClampNeg).toInt := cl_I (by omega)
            have ha := hrs x7.toNatClampNeg (by omega)
            rw [← h13] at ha
            have hu := l4 (v.2 13 x7.toNatClampNeg).toNatClampNeg (by omega) d2
            rw [und_s]
            rw [if_neg (nI_m1 (by omega))]
            by_cases y2 : nI q = top
            · rw [if_pos y2]
            · rw [if_neg y2, nI_clamp (by omega), y, ← h13]
              rw [← h13] at hu
              have e9 : nI (v.2 13 x7.toNatClampNeg).toNatClampNeg = v.2 13 x7.toNatClampNeg := Int32.toInt_inj.mp (by rw [nI_toInt (by omega)]; exact hc2)
              rw [e9] at hu
              exact hu
          · have hqE' : v.2 12 q = E := by
              rw [e8, rdA, if_neg (fun z => y z.2)] at hqE; exact hqE
            exact und_m (l4 q hq hqE')
      exact ih u8 (1 : Int32) (x7 + (1 : Int32)) I8 hl8 (by omega) (by omega) (by omega) (Or.inr ⟨rfl, hm2⟩)
theorem okl_s113 {v0 : g_S} {top E was : Int32} (h4 : 0 ≤ E.toInt) (h5 : E.toInt ≤ 59) (hE : E.toInt < (v0.1 2).toInt) (hne : ¬ E = was) (hrs : ∀ d : Nat, (d : Int) < (v0.1 1).toInt → (v0.2 13 d).toInt < (v0.1 1).toInt) : ∀ (n : Nat) (v : g_S) (x6 : Int32), IM g v → LI v0 top E was v → ((x6 = 0 ∧ 1 ≤ n ∧ ∀ d : Nat, (d : Int) < (v0.1 1).toInt → ¬ trg v E was d) ∨ (x6 = 1 ∧ mu_ (v.2 12) was 120 + 2 ≤ n)) → okk (fm_split_113 n v E was x6) (fun r => r.1 = E ∧ IM g r.2 ∧ LI v0 top E was r.2 ∧ ∀ d : Nat, (d : Int) < (v0.1 1).toInt → ¬ trg r.2 E was d) := by
  have z0 : (0 : Int32).toInt = 0 := by decide
  intro n
  induction n with
  | zero =>
    intro v x6 I hl h
    exfalso
    rcases h with q | q
    · have := q.2.1; omega
    · have := q.2; omega
  | succ n ih =>
    intro v x6 I hl h
    rw [fm_split_113_s]
    refine okk_eq (fun c cI => ?_) (fun c cI => ?_)
    · rcases h with q | q
      · exact okk_some ⟨rfl, I, hl, q.2.2⟩
      · rw [q.1] at c; exact absurd c (by decide)
    · have h1 : mu_ (v.2 12) was 120 + 2 ≤ n + 1 := by
        rcases h with q | q
        · exact absurd q.1 c
        · exact q.2
      refine okl_s124 (m := mu_ (v.2 12) was 120) h4 h5 hE hne hrs (fun v' x6' I' hl' h' => ih v' x6' I' hl' ?_) 200 v (0 : Int32) (0 : Int32) I hl (by omega) (by omega) (by omega) (Or.inl ⟨rfl, Nat.le_refl _, fun d hd => by omega⟩)
      rcases h' with q | q
      · exact Or.inl ⟨q.1, by omega, q.2⟩
      · exact Or.inr ⟨q.1, by have := q.2; omega⟩
theorem spl_all {v0 v : g_S} {t : Nat} {E was : Int32} (ht : t < 120) (hl : LI v0 (nI t) E was v) (hT : ∀ d : Nat, (d : Int) < (v0.1 1).toInt → ¬ trg v E was d) (htop : v0.2 12 t = E) (hne : ¬ E = was) {f ev : Nat → Int32} (hf : ∀ j, ¬ j = t → f j = v0.2 13 j) (hev : ∀ j, ¬ j = t → (j : Int) < (v0.1 1).toInt → ev j = v0.2 12 j) (hevt : ev t = was) (hold : ∀ j, ¬ j = t → (j : Int) < (v0.1 1).toInt → ¬ v0.2 12 j = E) (hr : ∀ d : Nat, (d : Int) < (v0.1 1).toInt → -1 ≤ (f d).toInt ∧ (f d).toInt < (v0.1 1).toInt) (hse : ∀ d : Nat, (d : Int) < (v0.1 1).toInt → 0 ≤ (f d).toInt → ev (f d).toNatClampNeg = ev d) (hN : (v0.1 1).toInt ≤ 120) :
    ∀ (n : Nat) (d : Nat), (d : Int) < (v0.1 1).toInt → und f (nI t) n (nI d) = true → v.2 12 d = E := by
  have zm : (-1 : Int32).toInt = -1 := by decide
  obtain ⟨l1, l2, l3, l4⟩ := hl
  have htE : v.2 12 t = E := by
    by_cases q : v.2 12 t = v0.2 12 t
    · rw [q, htop]
    · exact (l3 t q).1
  intro n
  induction n with
  | zero => intro d _ h; cases h
  | succ n ih =>
    intro d hd h
    rw [und_s, if_neg (nI_m1 (by omega))] at h
    by_cases q : d = t
    · rw [q]; exact htE
    · rw [if_neg (fun y => q ((nI_eq (by omega) (by omega)).mp y)), nI_clamp (by omega)] at h
      have hfr := hr d hd
      have h0 : 0 ≤ (f d).toInt := by
        rcases Int.lt_or_le (f d).toInt 0 with y | y
        · exfalso
          have e : f d = -1 := Int32.toInt_inj.mp (by omega)
          rw [e] at h
          cases n with
          | zero => cases h
          | succ n => rw [und_s, if_pos rfl] at h; cases h
        · exact y
      have hc : ((f d).toNatClampNeg : Int) = (f d).toInt := cl_I h0
      have e9 : nI (f d).toNatClampNeg = f d := Int32.toInt_inj.mp (by rw [nI_toInt (by omega)]; exact hc)
      have ha : v.2 12 (f d).toNatClampNeg = E := ih _ (by omega) (by rw [e9]; exact h)
      -- the reason's old event is 'was'
      have hwas : ev (f d).toNatClampNeg = was := by
        by_cases y : (f d).toNatClampNeg = t
        · rw [y]; exact hevt
        · have hx : ¬ v.2 12 (f d).toNatClampNeg = v0.2 12 (f d).toNatClampNeg := fun z => hold _ y (by omega) (z.symm.trans ha)
          rw [hev _ y (by omega)]
          exact (l3 _ hx).2.1
      have hdw : v0.2 12 d = was := by rw [← hev d q hd, ← hse d hd h0]; exact hwas
      by_cases y : v.2 12 d = v0.2 12 d
      · refine absurd ⟨y.trans hdw, ?_, ?_⟩ (hT d hd)
        · rw [l2 13 (by decide), ← hf d q]; exact h0
        · rw [l2 13 (by decide), ← hf d q]; exact ha
      · exact (l3 d y).1
end SPL
end
section
section MRG
variable {g : Nat → Int32} {u w : g_S}
theorem cnt_c (e : Int32) {N : Nat} (hN : u.1 0 = nI N) (hN2 : N ≤ 120) : ∀ (j m i : Nat), i + j = N → j < m → fcA_countIn_4 u m e (nI (mu_ (u.2 13) e i)) (nI i) = some (nI (mu_ (u.2 13) e N)) := by
  intro j
  induction j with
  | zero =>
    intro m i hi hm
    obtain ⟨m, rfl⟩ : ∃ m', m = m' + 1 := ⟨m - 1, by omega⟩
    obtain rfl : i = N := by omega
    rw [fcA_countIn_4_s, hN, if_pos (nI_le (Nat.le_refl _) (by omega))]
  | succ j ih =>
    intro m i hi hm
    obtain ⟨m, rfl⟩ : ∃ m', m = m' + 1 := ⟨m - 1, by omega⟩
    rw [fcA_countIn_4_s, hN, if_neg (nI_ge (by omega) (by omega)), ck_nI (n := 121) (by omega) (by decide), n31 (by omega), nI_1, nI_1]
    have := ih m (i + 1) (by omega) (by omega)
    rw [mu_s] at this
    by_cases q : u.2 13 i = e
    · rw [if_pos q] at this; rw [if_neg (fun y => y q)]; exact this
    · rw [if_neg q] at this; rw [if_pos q]; exact this
theorem cntc_e (I : IC g u) (e : Int32) {N : Nat} (hN : u.1 0 = nI N) (hN2 : N ≤ 120) : fcA_countIn u e = some (nI (mu_ (u.2 13) e N)) := cnt_c e hN hN2 N 200 0 (by omega) (by omega)
theorem cnt_m (e : Int32) {N : Nat} (hN : w.1 1 = nI N) (hN2 : N ≤ 120) : ∀ (j m i : Nat), i + j = N → j < m → fm_size_4 w m e (nI (mu_ (w.2 12) e i)) (nI i) = some (nI (mu_ (w.2 12) e N)) := by
  intro j
  induction j with
  | zero =>
    intro m i hi hm
    obtain ⟨m, rfl⟩ : ∃ m', m = m' + 1 := ⟨m - 1, by omega⟩
    obtain rfl : i = N := by omega
    rw [fm_size_4_s, hN, if_pos (nI_le (Nat.le_refl _) (by omega))]
  | succ j ih =>
    intro m i hi hm
    obtain ⟨m, rfl⟩ : ∃ m', m = m' + 1 := ⟨m - 1, by omega⟩
    rw [fm_size_4_s, hN, if_neg (nI_ge (by omega) (by omega)), ck_nI (n := 120) (by omega) (by decide), n31 (by omega), nI_1]
    have := ih m (i + 1) (by omega) (by omega)
    rw [mu_s] at this
    by_cases q : w.2 12 i = e
    · rw [if_pos q] at this; rw [if_neg (fun y => y q)]
      show fm_size_4 w m e (nI (mu_ (w.2 12) e i) + (1 : Int32)) (nI (i + 1)) = _
      rw [nI_1]; exact this
    · rw [if_neg q] at this; rw [if_pos q]
      show fm_size_4 w m e (nI (mu_ (w.2 12) e i) + (0 : Int32)) (nI (i + 1)) = _
      rw [Int32.add_zero]; exact this
theorem cntm_e (e : Int32) {N : Nat} (hN : w.1 1 = nI N) (hN2 : N ≤ 120) : fm_size w e = some (nI (mu_ (w.2 12) e N)) := cnt_m e hN hN2 N 200 0 (by omega) (by omega)
def maF (ev : Nat → Int32) (e t : Int32) (n : Nat) : Nat → Int32 := fun d => if d < n ∧ ev d = e then t else ev d
theorem maF_0 (ev : Nat → Int32) (e t : Int32) : maF ev e t 0 = ev := by
  funext d
  unfold maF
  rw [if_neg (fun y => by have := y.1; omega)]
theorem maF_at (ev : Nat → Int32) (e t : Int32) (n : Nat) : maF ev e t n n = ev n := by
  unfold maF
  rw [if_neg (fun y => by have := y.1; omega)]
theorem maF_n {ev : Nat → Int32} {e t : Int32} {n : Nat} (h : ev n = e) : upd (maF ev e t n) n t = maF ev e t (n + 1) := by
  funext d
  unfold upd maF
  by_cases y : d = n
  · rw [if_pos y, if_pos ⟨by omega, by rw [y]; exact h⟩]
  · rw [if_neg y]
    by_cases z : d < n ∧ ev d = e
    · rw [if_pos z, if_pos ⟨by omega, z.2⟩]
    · rw [if_neg z, if_neg (fun x => z ⟨by omega, x.2⟩)]
theorem maF_k {ev : Nat → Int32} {e t : Int32} {n : Nat} (h : ¬ ev n = e) : maF ev e t n = maF ev e t (n + 1) := by
  funext d
  unfold maF
  by_cases z : d < n ∧ ev d = e
  · rw [if_pos z, if_pos ⟨by omega, z.2⟩]
  · rw [if_neg z, if_neg (fun x => z ⟨by
      have := x.1
      rcases Nat.lt_or_ge d n with y | y
      · exact y
      · obtain rfl : d = n := by omega
        exact absurd x.2 h, x.2⟩)]
def pA (u : g_S) (k : Nat) (F : Nat → Int32) : g_S := (u.1, va_up u.2 k F)
theorem pA_k (u : g_S) (k : Nat) (F : Nat → Int32) : (pA u k F).2 k = F := by
  show va_up u.2 k F k = F
  unfold va_up
  rw [if_pos rfl]
theorem pA_o (u : g_S) (k : Nat) (F : Nat → Int32) (k' : Nat) (h : ¬ k' = k) : (pA u k F).2 k' = u.2 k' := by
  show va_up u.2 k F k' = _
  unfold va_up
  rw [if_neg h]
theorem pA_w (u : g_S) (k : Nat) (F : Nat → Int32) (i v : Int32) : g_sA (pA u k F) k i v = pA u k (upd F i.toNatClampNeg v) := by
  have h : (g_sA (pA u k F) k i v).2 = (pA u k (upd F i.toNatClampNeg v)).2 := by
    funext k'
    by_cases q : k' = k
    · rw [q, pA_k]
      funext j
      rw [rdA, pA_k]
      unfold upd
      by_cases y : j = i.toNatClampNeg
      · rw [if_pos ⟨rfl, y⟩, if_pos y]
      · rw [if_neg (fun z => y z.2), if_neg y]
    · rw [eqf_w k i v k' q, pA_o _ _ _ _ q, pA_o _ _ _ _ q]
  exact Prod.ext rfl h
theorem pA_s (u : g_S) (k : Nat) : pA u k (u.2 k) = u := by
  have h : (pA u k (u.2 k)).2 = u.2 := by
    funext k'
    by_cases q : k' = k
    · rw [q, pA_k]
    · exact pA_o _ _ _ _ q
  exact Prod.ext rfl h
theorem all_c (e t : Int32) {N : Nat} (hN : u.1 0 = nI N) (hN2 : N ≤ 120) : ∀ (j m i : Nat), i + j = N → j < m → fcA_moveAll_2 m (pA u 13 (maF (u.2 13) e t i)) e t (nI i) = some (pA u 13 (maF (u.2 13) e t N)) := by
  intro j
  induction j with
  | zero =>
    intro m i hi hm
    obtain ⟨m, rfl⟩ : ∃ m', m = m' + 1 := ⟨m - 1, by omega⟩
    obtain rfl : i = N := by omega
    rw [fcA_moveAll_2_s, show (pA u 13 (maF (u.2 13) e t i)).1 0 = nI i from hN, if_pos (nI_le (Nat.le_refl _) (by omega))]
  | succ j ih =>
    intro m i hi hm
    obtain ⟨m, rfl⟩ : ∃ m', m = m' + 1 := ⟨m - 1, by omega⟩
    rw [fcA_moveAll_2_s, show (pA u 13 (maF (u.2 13) e t i)).1 0 = nI N from hN, if_neg (nI_ge (by omega) (by omega)), ck_nI (n := 121) (by omega) (by decide), n31 (by omega), pA_k, maF_at]
    by_cases q : u.2 13 i = e
    · rw [if_neg (fun y => y q), ck_nI (n := 121) (by omega) (by decide)]
      show fcA_moveAll_2 m (g_sA (pA u 13 (maF (u.2 13) e t i)) 13 (nI i) t) e t (nI i + (1 : Int32)) = _
      rw [pA_w, n31 (by omega), maF_n q, nI_1]
      exact ih m (i + 1) (by omega) (by omega)
    · rw [if_pos q, maF_k q, nI_1]
      exact ih m (i + 1) (by omega) (by omega)
theorem all_m (e : Int32) {c N : Nat} (hc : c < 120) (hce : ¬ w.2 12 c = e) (hN : w.1 1 = nI N) (hN2 : N ≤ 120) : ∀ (j m i : Nat), i + j = N → j < m → ∃ m', 0 < m' ∧ fm_merge_115 m (pA w 12 (maF (w.2 12) e (w.2 12 c) i)) e (nI c) (nI i) = fm_merge_115 m' (pA w 12 (maF (w.2 12) e (w.2 12 c) N)) e (nI c) (nI N) := by
  have hcc : ∀ i, maF (w.2 12) e (w.2 12 c) i c = w.2 12 c := fun i => by
    unfold maF
    rw [if_neg (fun y => hce y.2)]
  intro j
  induction j with
  | zero =>
    intro m i hi hm
    obtain rfl : i = N := by omega
    exact ⟨m, by omega, rfl⟩
  | succ j ih =>
    intro m i hi hm
    obtain ⟨m, rfl⟩ : ∃ m', m = m' + 1 := ⟨m - 1, by omega⟩
    obtain ⟨m', h1, h2⟩ := ih m (i + 1) (by omega) (by omega)
    refine ⟨m', h1, ?_⟩
    rw [fm_merge_115_s, show (pA w 12 (maF (w.2 12) e (w.2 12 c) i)).1 1 = nI N from hN, if_neg (nI_ge (by omega) (by omega)), ck_nI (n := 120) (by omega) (by decide), n31 (by omega), pA_k, maF_at]
    by_cases q : w.2 12 i = e
    · rw [if_neg (fun y => y q), ck_nI hc (by decide), ck_nI (n := 120) (by omega) (by decide), n31 (by omega), hcc]
      show fm_merge_115 m (g_sA (pA w 12 (maF (w.2 12) e (w.2 12 c) i)) 12 (nI i) (w.2 12 c)) e (nI c) (nI i + (1 : Int32)) = _
      rw [pA_w, n31 (by omega), maF_n q, nI_1]
      exact h2
    · rw [if_pos q, maF_k q, nI_1]
      exact h2
end MRG
end
section
section ADD
variable {g : Nat → Int32} {u w : g_S}
theorem RA_add {u' w' : g_S} {N : Nat} (R : RA u w) (hN : (u.1 0).toInt = N) (h0 : (u'.1 0).toInt = N + 1) (e0 : u'.1 0 = w'.1 1) (e1 : u'.1 1 = w'.1 2)
    (hl : ∀ k, k < 7 → u'.2 k = u.2 k ∧ w'.2 k = w.2 k)
    (hc : ∀ k c : Nat, 7 ≤ k → k < 17 → c < N → u'.2 k c = u.2 k c) (hd : ∀ k c : Nat, 7 ≤ k → k < 16 → c < N → w'.2 k c = w.2 k c)
    (hn : u'.2 7 N = w'.2 7 N ∧ u'.2 8 N = w'.2 8 N ∧ u'.2 9 N = w'.2 9 N ∧ u'.2 10 N = w'.2 10 N ∧ u'.2 12 N = w'.2 11 N ∧ u'.2 13 N = w'.2 12 N ∧ u'.2 14 N = w'.2 13 N ∧ u'.2 15 N = w'.2 15 N ∧ u'.2 16 N = w'.2 14 N)
    (he : ∀ e : Nat, (e : Int) < (u'.1 1).toInt → u'.2 17 e = w'.2 16 e ∧ (¬ u'.2 17 e = 3 → u'.2 20 e = w'.2 17 e ∧ (¬ u'.2 20 e = -1 → (u'.2 21 e = w'.2 18 e ∧ u'.2 22 e = w'.2 19 e ∧ (w'.2 18 e).toInt < (w'.2 19 e).toInt) ∨ (u'.2 21 e = w'.2 19 e ∧ u'.2 22 e = w'.2 18 e ∧ (w'.2 19 e).toInt < (w'.2 18 e).toInt)))) : RA u' w' := by
  refine ⟨e0, e1, fun k hk => ?_, fun c q => ?_, he⟩
  · rw [(hl k hk).1, (hl k hk).2]; exact R.2.2.1 k hk
  · by_cases y : c = N
    · rw [y]; exact hn
    · have hcN : c < N := by omega
      rw [hc 7 c (by omega) (by omega) hcN, hc 8 c (by omega) (by omega) hcN, hc 9 c (by omega) (by omega) hcN, hc 10 c (by omega) (by omega) hcN, hc 12 c (by omega) (by omega) hcN, hc 13 c (by omega) (by omega) hcN, hc 14 c (by omega) (by omega) hcN, hc 15 c (by omega) (by omega) hcN, hc 16 c (by omega) (by omega) hcN,
        hd 7 c (by omega) (by omega) hcN, hd 8 c (by omega) (by omega) hcN, hd 9 c (by omega) (by omega) hcN, hd 10 c (by omega) (by omega) hcN, hd 11 c (by omega) (by omega) hcN, hd 12 c (by omega) (by omega) hcN, hd 13 c (by omega) (by omega) hcN, hd 15 c (by omega) (by omega) hcN, hd 14 c (by omega) (by omega) hcN]
      exact R.2.2.2.1 c (by omega)
theorem RS_add {u' : g_S} {N : Nat} (S : RS u) (hN : (u.1 0).toInt = N) (h0 : (u'.1 0).toInt = N + 1) (h1 : (u.1 1).toInt ≤ (u'.1 1).toInt) (h6 : u'.2 6 = u.2 6)
    (hc : ∀ k c : Nat, 7 ≤ k → k < 17 → c < N → u'.2 k c = u.2 k c)
    (n1 : 0 ≤ (u'.2 12 N).toInt ∧ -1 ≤ (u'.2 9 N).toInt ∧ (u'.2 9 N).toInt ≤ 99999999 ∧ (u'.2 13 N).toInt < (u'.1 1).toInt ∧ (u'.2 14 N).toInt ≤ N)
    (n2 : 0 ≤ (u'.2 14 N).toInt → u'.2 13 (u'.2 14 N).toNatClampNeg = u'.2 13 N)
    (ho : ∀ e : Nat, (e : Int) < (u.1 1).toInt → u'.2 17 e = u.2 17 e ∧ u'.2 18 e = u.2 18 e ∧ u'.2 19 e = u.2 19 e)
    (hx : ∀ e : Nat, (e : Int) < (u.1 1).toInt → (u'.2 13 N).toInt = e → ¬ (u'.2 14 N).toInt < 0)
    (hy : ∀ e : Nat, ¬ (e : Int) < (u.1 1).toInt → (e : Int) < (u'.1 1).toInt → (u'.2 19 e).toInt = N ∧ (u'.2 13 N).toInt = e ∧ u'.2 14 N = -1 ∧ u'.2 18 e = u'.2 8 N) : RS u' := by
  obtain ⟨s1, s2, s3, s4⟩ := S
  refine ⟨by rw [h6]; exact s1, fun c q => ?_, fun c q hr => ?_, fun e he h3 => ?_⟩
  · by_cases y : c = N
    · rw [y]; exact ⟨n1.1, n1.2.1, n1.2.2.1, n1.2.2.2.1, by have := n1.2.2.2.2; omega⟩
    · have hcN : c < N := by omega
      rw [hc 12 c (by omega) (by omega) hcN, hc 9 c (by omega) (by omega) hcN, hc 13 c (by omega) (by omega) hcN, hc 14 c (by omega) (by omega) hcN]
      obtain ⟨a1, a2, a3, a4, a5⟩ := s2 c (by omega)
      exact ⟨a1, a2, a3, by omega, by omega⟩
  · by_cases y : c = N
    · rw [y] at hr ⊢; exact n2 hr
    · have hcN : c < N := by omega
      rw [hc 14 c (by omega) (by omega) hcN] at hr ⊢
      have a5 := (s2 c (by omega)).2.2.2.2
      have hcl : ((u.2 14 c).toNatClampNeg : Int) = (u.2 14 c).toInt := cl_I hr
      rw [hc 13 (u.2 14 c).toNatClampNeg (by omega) (by omega) (by omega), hc 13 c (by omega) (by omega) hcN]
      exact s3 c (by omega) hr
  · by_cases y : (e : Int) < (u.1 1).toInt
    · obtain ⟨o17, o18, o19⟩ := ho e y
      rw [o17] at h3
      obtain ⟨a1, a2, a3, a4, a5, a6⟩ := s4 e y h3
      have hcl : ((u.2 19 e).toNatClampNeg : Int) = (u.2 19 e).toInt := cl_I a1
      have hfN : (u.2 19 e).toNatClampNeg < N := by omega
      rw [o18, o19, hc 13 (u.2 19 e).toNatClampNeg (by omega) (by omega) hfN, hc 14 (u.2 19 e).toNatClampNeg (by omega) (by omega) hfN, hc 8 (u.2 19 e).toNatClampNeg (by omega) (by omega) hfN]
      refine ⟨a1, by omega, a3, a4, a5, fun c q b1 b2 => ?_⟩
      by_cases z : c = N
      · rw [z] at b1 b2; exact absurd b2 (hx e y b1)
      · have hcN : c < N := by omega
        rw [hc 13 c (by omega) (by omega) hcN] at b1
        rw [hc 14 c (by omega) (by omega) hcN] at b2
        exact a6 c (by omega) b1 b2
    · obtain ⟨b1, b2, b3, b4⟩ := hy e y he
      have hcl : ((u'.2 19 e).toNatClampNeg : Int) = (u'.2 19 e).toInt := cl_I (by omega)
      have e9 : (u'.2 19 e).toNatClampNeg = N := by omega
      rw [e9]
      refine ⟨by omega, by omega, b2, b3, b4, fun c q d1 d2 => ?_⟩
      by_cases z : c = N
      · rw [z]; omega
      · have hcN : c < N := by omega
        rw [hc 13 c (by omega) (by omega) hcN] at d1
        have := (s2 c (by omega)).2.2.2.1
        omega
def bgS (u : g_S) (k c : Int32) : g_S := g_sI (g_sA (g_sA (g_sA (g_sA u 17 (u.1 1) (0 : Int32)) 18 (u.1 1) k) 19 (u.1 1) c) 20 (u.1 1) (-1 : Int32)) 1 ((u.1 1) + (1 : Int32))
theorem begin_e (I : IC g u) (h : (u.1 1).toInt < 60) (k c : Int32) : fcE_begin u k c = some (u.1 1, bgS u k c) := by
  have z := IC_s I
  have hv : vp_in (u.1 1) 60 := vp_I (by omega) (by omega)
  unfold fcE_begin
  rw [ck_in hv]
  show ck (u.1 1) 60 _ = _
  rw [ck_in hv]
  show ck (u.1 1) 60 _ = _
  rw [ck_in hv]
  show ck (u.1 1) 60 _ = _
  rw [ck_in hv]
  show some (((u.1 1) + (1 : Int32)) - (1 : Int32), bgS u k c) = _
  rw [Int32.add_sub_cancel]
def neS (w : g_S) : g_S := g_sI (g_sA (g_sA w 16 (w.1 2) (0 : Int32)) 17 (w.1 2) (-1 : Int32)) 2 ((w.1 2) + (1 : Int32))
theorem newEvent_e (h0 : 0 ≤ (w.1 2).toInt) (h : (w.1 2).toInt < 60) : fm_newEvent w = some (w.1 2, neS w) := by
  have hv : vp_in (w.1 2) 60 := vp_I (by omega) (by omega)
  unfold fm_newEvent
  rw [ck_in hv]
  show ck (w.1 2) 60 _ = _
  rw [ck_in hv]
  show some (((w.1 2) + (1 : Int32)) - (1 : Int32), neS w) = _
  rw [Int32.add_sub_cancel]
theorem nr1 : fcJ_needRoom (1 : Int32) = some 0 := by decide
theorem nr0 : fcJ_needRoom (0 : Int32) = some 4 := by decide
theorem ns1 : fcJ_needState (1 : Int32) = some 0 := by decide
theorem ns0 : fcJ_needState (0 : Int32) = some 3 := by decide
theorem nk1 : fcJ_needKnown (1 : Int32) = some 0 := by decide
theorem nk0 : fcJ_needKnown (0 : Int32) = some 1 := by decide
theorem ng1 : fcJ_needRange (1 : Int32) = some 0 := by decide
theorem ng0 : fcJ_needRange (0 : Int32) = some 2 := by decide
def nrS (w : g_S) (i p1 p2 p3 p4 p6 r h : Int32) : g_S := g_sA (g_sA (g_sA (g_sA (g_sA (g_sA (g_sA (g_sA w 7 i p1) 8 i p2) 9 i p3) 10 i p4) 11 i p6) 14 i (0 : Int32)) 13 i r) 15 i h
theorem c90 {N : Nat} (hN : w.1 1 = nI N) (hN2 : N < 120) (x1 x2 x3 x4 x6 x7 : Int32) : fm_call_90 w x1 x2 x3 x4 x6 x7 (0 : Int32) (0 : Int32) (0 : Int32) = if 0 ≤ x7 then (ck x7 120 <| fm_call_199 (nrS (g_sI w 0 0) (nI N) x1 x2 x3 x4 x6 x7 (w.1 3)) (nI N) (nI N) ((nrS (g_sI w 0 0) (nI N) x1 x2 x3 x4 x6 x7 (w.1 3)).2 12 x7.toNatClampNeg)) else (fm_newEvent (nrS (g_sI w 0 0) (nI N) x1 x2 x3 x4 x6 x7 (w.1 3))).bind fun v17 => fm_call_199 v17.2 (nI N) (nI N) v17.1 := by
  unfold fm_call_90
  rw [bi_s (fm_thr_0 w)]
  dsimp only
  rw [if_pos rfl, gl_r, show (g_sI w 0 0).1 1 = nI N from hN, ck_nI hN2 (by decide), gl_r, ck_nI hN2 (by decide), gl_r, ck_nI hN2 (by decide), gl_r, ck_nI hN2 (by decide), gl_r, ck_nI hN2 (by decide), gl_r, ck_nI hN2 (by decide), gl_r, ck_nI hN2 (by decide), gl_r, ck_nI hN2 (by decide), gl_r]
  rfl
theorem c90x (x1 x2 x3 x4 x6 x7 : Int32) : fm_call_90 w x1 x2 x3 x4 x6 x7 (0 : Int32) (0 : Int32) (1 : Int32) = some ((0 : Int32), g_sI w 0 3) := by
  unfold fm_call_90
  rw [bi_s (fm_thr_3 w)]
  dsimp only
  rw [if_neg (by decide)]
theorem c199 {N : Nat} (hN2 : N < 120) (x8 y2 : Int32) : fm_call_199 w x8 (nI N) y2 = some (x8, g_sI (g_sA w 12 (nI N) y2) 1 ((w.1 1) + (1 : Int32))) := by
  unfold fm_call_199
  rw [ck_nI hN2 (by decide)]
  rfl
theorem nrS_o (i p1 p2 p3 p4 p6 r h : Int32) (k : Nat) (hk : k < 7 ∨ k = 12 ∨ 16 ≤ k) : (nrS w i p1 p2 p3 p4 p6 r h).2 k = w.2 k := by
  unfold nrS
  rw [eqf_w 15 _ _ k (by omega), eqf_w 13 _ _ k (by omega), eqf_w 14 _ _ k (by omega), eqf_w 11 _ _ k (by omega), eqf_w 10 _ _ k (by omega), eqf_w 9 _ _ k (by omega), eqf_w 8 _ _ k (by omega), eqf_w 7 _ _ k (by omega)]
theorem nrS_c {N : Nat} (hN2 : N < 120) (p1 p2 p3 p4 p6 r h : Int32) (k c : Nat) (hc : c < N) : (nrS w (nI N) p1 p2 p3 p4 p6 r h).2 k c = w.2 k c := by
  have q : ∀ (v : g_S) (k' : Nat) (x : Int32), (g_sA v k' (nI N) x).2 k c = v.2 k c := fun v k' x => by
    rw [rdA, n31 (by omega), if_neg (fun y => by have := y.2; omega)]
  unfold nrS
  rw [q, q, q, q, q, q, q, q]
theorem nrS_r {N : Nat} (hN2 : N < 120) (p1 p2 p3 p4 p6 r h : Int32) : (nrS w (nI N) p1 p2 p3 p4 p6 r h).2 7 N = p1 ∧ (nrS w (nI N) p1 p2 p3 p4 p6 r h).2 8 N = p2 ∧ (nrS w (nI N) p1 p2 p3 p4 p6 r h).2 9 N = p3 ∧ (nrS w (nI N) p1 p2 p3 p4 p6 r h).2 10 N = p4 ∧ (nrS w (nI N) p1 p2 p3 p4 p6 r h).2 11 N = p6 ∧ (nrS w (nI N) p1 p2 p3 p4 p6 r h).2 13 N = r ∧ (nrS w (nI N) p1 p2 p3 p4 p6 r h).2 15 N = h ∧ (nrS w (nI N) p1 p2 p3 p4 p6 r h).2 14 N = 0 := by
  have n0 : (nI N).toNatClampNeg = N := n31 (by omega)
  have q : ∀ (v : g_S) (k' : Nat) (x : Int32), (g_sA v k' (nI N) x).2 k' N = x := fun v k' x => by
    rw [rdA, if_pos ⟨rfl, n0.symm⟩]
  unfold nrS
  refine ⟨?_, ?_, ?_, ?_, ?_, ?_, ?_, ?_⟩
  · rw [eqf_w 15 _ _ 7 (by decide), eqf_w 13 _ _ 7 (by decide), eqf_w 14 _ _ 7 (by decide), eqf_w 11 _ _ 7 (by decide), eqf_w 10 _ _ 7 (by decide), eqf_w 9 _ _ 7 (by decide), eqf_w 8 _ _ 7 (by decide), q]
  · rw [eqf_w 15 _ _ 8 (by decide), eqf_w 13 _ _ 8 (by decide), eqf_w 14 _ _ 8 (by decide), eqf_w 11 _ _ 8 (by decide), eqf_w 10 _ _ 8 (by decide), eqf_w 9 _ _ 8 (by decide), q]
  · rw [eqf_w 15 _ _ 9 (by decide), eqf_w 13 _ _ 9 (by decide), eqf_w 14 _ _ 9 (by decide), eqf_w 11 _ _ 9 (by decide), eqf_w 10 _ _ 9 (by decide), q]
  · rw [eqf_w 15 _ _ 10 (by decide), eqf_w 13 _ _ 10 (by decide), eqf_w 14 _ _ 10 (by decide), eqf_w 11 _ _ 10 (by decide), q]
  · rw [eqf_w 15 _ _ 11 (by decide), eqf_w 13 _ _ 11 (by decide), eqf_w 14 _ _ 11 (by decide), q]
  · rw [eqf_w 15 _ _ 13 (by decide), q]
  · rw [q]
  · rw [eqf_w 15 _ _ 14 (by decide), eqf_w 13 _ _ 14 (by decide), q]
end ADD
end
section
section JNS
variable {g : Nat → Int32} {u w : g_S}
theorem some_u {α : Type} {o : Option α} {a b : α} (h1 : o = some a) (h2 : o = some b) : a = b := Option.some.inj (h1.symm.trans h2)
theorem RA_i {w' : g_S} (h : w'.2 = w.2) (h1 : w'.1 1 = w.1 1) (h2 : w'.1 2 = w.1 2) (R : RA u w) : RA u w' := by
  unfold RA
  rw [h, h1, h2]
  exact R
theorem dseek (R : RA u w) (S : RS u) (I : IC g u) (J : IM g w) {p1 p2 p3 p4 p5 p6 : Int32} (hk : 0 ≤ p2.toInt ∧ p2.toInt ≤ 7) (hp : -1 ≤ p3.toInt ∧ p3.toInt ≤ 99999999) (ht : (latV u).toInt ≤ p6.toInt) :
    ∃ (N : Nat) (r h : Int32) (u1 v4 w' : g_S), u.1 0 = nI N ∧ N ≤ 120 ∧ fcA_draft u p1 p2 p3 p4 p5 p6 = some (nI N, u1) ∧ fcJ_seekReason u1 (nI N) = some v4 ∧ SB u v4 ∧ (v4.2 7 N = p1 ∧ v4.2 8 N = p2 ∧ v4.2 9 N = p3 ∧ v4.2 10 N = p4 ∧ v4.2 12 N = p6 ∧ v4.2 14 N = r ∧ v4.2 15 N = h ∧ v4.2 16 N = 0) ∧ fm_reason (g_sI w 0 0) p1 p2 p3 p4 p5 p6 = some (r, w') ∧ w'.2 = w.2 ∧ w'.1 0 = 0 ∧ w'.1 1 = w.1 1 ∧ w'.1 2 = w.1 2 ∧ w'.1 3 = h ∧ -1 ≤ r.toInt ∧ r.toInt < (u.1 0).toInt ∧ IC g v4 ∧ 0 ≤ p6.toInt := by
  have z := IC_s I
  have zm : (-1 : Int32).toInt = -1 := by decide
  have l0 := lat_0 S I
  obtain ⟨N, hN, hN2, -⟩ := nat_of (p := u.1 0) (n := 121) (by omega)
  obtain ⟨k, hk1, hk2, -⟩ := nat_of (p := p2) (n := 8) (by omega)
  have hN121 : N < 121 := by omega
  have hde := draft_e I p1 p2 p3 p4 p5 p6
  have hsb := SB_d I p1 p2 p3 p4 p5 p6
  rw [hN] at hde hsb
  obtain ⟨rd, hd, I1, -⟩ := okk_fcA_draft I (p1 := p1) (p2 := p2) (p3 := p3) (p4 := p4) (p5 := p5) (p6 := p6) hk.1 hk.2
  rw [some_u hd hde] at I1
  have I1 : IC g (dS u (nI N) p1 p2 p3 p4 p5 p6) := I1
  obtain ⟨D7, D8, D9, D10, D11, D12, D14, D15, D16⟩ := dS_r u (nI N) p1 p2 p3 p4 p5 p6
  rw [n31 hN121] at D7 D8 D9 D10 D11 D12 D14 D15 D16
  generalize dS u (nI N) p1 p2 p3 p4 p5 p6 = u1 at *
  have R1 : RA u1 (g_sI w 0 0) := RA_0 (RA_sb hsb R) 0
  have S1 : RS u1 := RS_sb hsb S
  obtain ⟨r, h, w', f1, f2, f3, f4, f5, f6, f7, f8, f9, f10, f11⟩ := seek_eq R1 S1 I1 (IM_ix J _ (by decide)) (d := N) (k := k) hN121 (by omega) (by rw [D8]; exact hk1) (by rw [D12]; omega) (by rw [D9]; exact hp)
  rw [D7, D9, D10, D11, D12, ← hk1] at f1
  have hu0 : u1.1 0 = u.1 0 := by rw [hsb.1]
  obtain ⟨v4, hv4, I4, -⟩ := okk_fcJ_seekReason I1 (p1 := nI N) (by rw [nI_toInt (by omega)]; omega) (by rw [nI_toInt (by omega)]; omega)
  have e4 := some_u hv4 f11
  have cN : ((nI N).toNatClampNeg : Int) = (u.1 0).toInt := by rw [n31 hN121, hN, nI_toInt (by omega)]
  refine ⟨N, r, h, u1, v4, w', hN, by omega, hde, hv4, ?_, ?_, f1, f2, f3, f4, f5, f6, f8, by rw [← hu0]; exact f9, I4, by omega⟩
  · rw [e4]
    by_cases q : r = -1
    · rw [if_pos q]; exact hsb
    · rw [if_neg q]
      unfold tkS
      exact SB_w (SB_w hsb 14 (by decide) _ _ (by omega)) 15 (by decide) _ _ (by omega)
  · rw [e4]
    by_cases q : r = -1
    · rw [if_pos q]
      exact ⟨D7, D8, D9, D10, D12, by rw [D14, q], by rw [D15, f10 q], D16⟩
    · rw [if_neg q]
      unfold tkS
      have n0 : (nI N).toNatClampNeg = N := n31 hN121
      refine ⟨?_, ?_, ?_, ?_, ?_, ?_, ?_, ?_⟩
      · rw [eqf_w 15 _ _ 7 (by decide), eqf_w 14 _ _ 7 (by decide)]; exact D7
      · rw [eqf_w 15 _ _ 8 (by decide), eqf_w 14 _ _ 8 (by decide)]; exact D8
      · rw [eqf_w 15 _ _ 9 (by decide), eqf_w 14 _ _ 9 (by decide)]; exact D9
      · rw [eqf_w 15 _ _ 10 (by decide), eqf_w 14 _ _ 10 (by decide)]; exact D10
      · rw [eqf_w 15 _ _ 12 (by decide), eqf_w 14 _ _ 12 (by decide)]; exact D12
      · rw [eqf_w 15 _ _ 14 (by decide), rdA, if_pos ⟨rfl, n0.symm⟩]
      · rw [rdA, if_pos ⟨rfl, n0.symm⟩]
      · rw [eqf_w 15 _ _ 16 (by decide), eqf_w 14 _ _ 16 (by decide)]; exact D16
theorem ik1 {v : Int32} (h : v.toInt = 1) : v = 1 := Int32.toInt_inj.mp (by rw [h]; decide)
theorem ik0 {v : Int32} (h : v.toInt = 0) : v = 0 := Int32.toInt_inj.mp (by rw [h]; decide)
theorem lk_reasonFor (R : RA u w) (S : RS u) (I : IC g u) (J : IM g w) (p1 p2 p3 p4 p5 p6 : Int32) : ∃ rv rz, fcJ_reasonFor u p1 p2 p3 p4 p5 p6 = some rv ∧ fm_reasonFor w p1 p2 p3 p4 p5 p6 = some rz ∧ RA rv.2.2 rz.2 ∧ RS rv.2.2 ∧ rz.2.1 0 = lwc [1, 2] rv.1 ∧ (rv.1 = 0 → rv.2.1 = rz.1) := by
  obtain ⟨c1, hc1, hc⟩ := okl_fcJ_needCallData I (p1 := p1) (p2 := p2) (p3 := p3) (p4 := p5) (p5 := p6)
  obtain ⟨v1, hv1, hv⟩ := okl_fm_isKnown (p0 := p2) (p1 := p5)
  obtain ⟨v2, hv2, hr⟩ := okl_fm_isRange J (p1 := p1) (p2 := p3) (p3 := p6)
  rw [← lat_eq R I] at hr
  rcases hc with ⟨a1, a2⟩ | ⟨a1, a2, a3⟩ | ⟨a1, a2, a3⟩
  · have E1 : fcJ_reasonFor u p1 p2 p3 p4 p5 p6 = some (1, (0 : Int32), u) := by
      unfold fcJ_reasonFor
      rw [bi_s hc1, a1, if_neg (by decide)]
    have v0 : v1 = 0 := ik0 (by omega)
    have E2 : fm_reasonFor w p1 p2 p3 p4 p5 p6 = some ((0 : Int32), g_sI w 0 1) := by
      unfold fm_reasonFor
      rw [bi_s hv1, v0, if_neg (fun q => q rfl)]
      unfold fm_reasonFor_15
      rw [bi_s hv2]
      by_cases q : v2 = 0
      · rw [if_neg (fun y => y q)]
        unfold fm_reasonFor_31
        rw [bi_s (fm_thr_1 w 1 0)]
        dsimp only
        rw [if_neg (by decide)]
      · rw [if_pos q]
        unfold fm_reasonFor_31
        rw [bi_s (fm_thr_1 w 0 0)]
        dsimp only
        rw [if_neg (by decide)]
    exact ⟨_, _, E1, E2, RA_0 R 1, S, by show (1 : Int32) = lwc [1, 2] 1; decide, fun q => by simp at q⟩
  · have E1 : fcJ_reasonFor u p1 p2 p3 p4 p5 p6 = some (2, (0 : Int32), u) := by
      unfold fcJ_reasonFor
      rw [bi_s hc1, a1, if_neg (by decide)]
    have v0 : v1 = 1 := ik1 (by omega)
    have v20 : v2 = 0 := ik0 (by omega)
    have E2 : fm_reasonFor w p1 p2 p3 p4 p5 p6 = some ((0 : Int32), g_sI w 0 2) := by
      unfold fm_reasonFor
      rw [bi_s hv1, v0, if_pos (by decide)]
      unfold fm_reasonFor_15
      rw [bi_s hv2, v20, if_neg (fun q => q rfl)]
      unfold fm_reasonFor_31
      rw [bi_s (fm_thr_2 w 0)]
      dsimp only
      rw [if_neg (by decide)]
    exact ⟨_, _, E1, E2, RA_0 R 2, S, by show (2 : Int32) = lwc [1, 2] 2; decide, fun q => by simp at q⟩
  · have v0 : v1 = 1 := ik1 (by omega)
    have v20 : v2 = 1 := ik1 (by omega)
    obtain ⟨N, r, h, u1, v4, w', hN, hN2, hde, hs, hsb, D, f1, f2, f3, f4, f5, f6, f8, f9, I4, -⟩ := dseek R S I J (p1 := p1) (p2 := p2) (p3 := p3) (p4 := p4) (p5 := p5) (p6 := p6) (by omega) (by omega) (by omega)
    have E1 : fcJ_reasonFor u p1 p2 p3 p4 p5 p6 = some (0, r, v4) := by
      unfold fcJ_reasonFor
      rw [bi_s hc1, a1, if_pos rfl, bi_s hde]
      dsimp only
      rw [bi_s hs, ck_nI (n := 121) (by omega) (by decide), n31 (by omega), D.2.2.2.2.2.1]
    have E2 : fm_reasonFor w p1 p2 p3 p4 p5 p6 = some (r, w') := by
      unfold fm_reasonFor
      rw [bi_s hv1, v0, if_pos (by decide)]
      unfold fm_reasonFor_15
      rw [bi_s hv2, v20, if_pos (by decide)]
      unfold fm_reasonFor_31
      rw [bi_s (fm_thr_0 w)]
      dsimp only
      rw [if_pos rfl, bi_s f1]
    exact ⟨_, _, E1, E2, RA_i f2 f4 f5 (RA_sb hsb R), RS_sb hsb S, by show w'.1 0 = lwc [1, 2] 0; rw [f3]; decide, fun _ => rfl⟩
theorem bgS_o (k c : Int32) (j : Nat) (hj : j < 17 ∨ 20 < j) : (bgS u k c).2 j = u.2 j := by
  show (g_sA (g_sA (g_sA (g_sA u 17 (u.1 1) (0 : Int32)) 18 (u.1 1) k) 19 (u.1 1) c) 20 (u.1 1) (-1 : Int32)).2 j = _
  rw [eqf_w 20 _ _ j (by omega), eqf_w 19 _ _ j (by omega), eqf_w 18 _ _ j (by omega), eqf_w 17 _ _ j (by omega)]
theorem bgS_e {M : Nat} (hM : u.1 1 = nI M) (hM2 : M < 60) (k c : Int32) (j e : Nat) (he : ¬ e = M) : (bgS u k c).2 j e = u.2 j e := by
  have q : ∀ (v : g_S) (k' : Nat) (x : Int32), (g_sA v k' (nI M) x).2 j e = v.2 j e := fun v k' x => by
    rw [rdA, n31 (by omega), if_neg (fun y => he y.2)]
  show (g_sA (g_sA (g_sA (g_sA u 17 (u.1 1) (0 : Int32)) 18 (u.1 1) k) 19 (u.1 1) c) 20 (u.1 1) (-1 : Int32)).2 j e = _
  rw [hM, q, q, q, q]
theorem bgS_n {M : Nat} (hM : u.1 1 = nI M) (hM2 : M < 60) (k c : Int32) : (bgS u k c).2 17 M = 0 ∧ (bgS u k c).2 18 M = k ∧ (bgS u k c).2 19 M = c ∧ (bgS u k c).2 20 M = -1 := by
  have n0 : (nI M).toNatClampNeg = M := n31 (by omega)
  have q : ∀ (v : g_S) (k' : Nat) (x : Int32), (g_sA v k' (nI M) x).2 k' M = x := fun v k' x => by
    rw [rdA, if_pos ⟨rfl, n0.symm⟩]
  have e : (bgS u k c).2 = (g_sA (g_sA (g_sA (g_sA u 17 (nI M) (0 : Int32)) 18 (nI M) k) 19 (nI M) c) 20 (nI M) (-1 : Int32)).2 := by
    unfold bgS
    rw [hM]
    rfl
  rw [e]
  refine ⟨?_, ?_, ?_, ?_⟩
  · rw [eqf_w 20 _ _ 17 (by decide), eqf_w 19 _ _ 17 (by decide), eqf_w 18 _ _ 17 (by decide), q]
  · rw [eqf_w 20 _ _ 18 (by decide), eqf_w 19 _ _ 18 (by decide), q]
  · rw [eqf_w 20 _ _ 19 (by decide), q]
  · rw [q]
theorem neS_o (j : Nat) (hj : j < 16 ∨ 17 < j) : (neS w).2 j = w.2 j := by
  show (g_sA (g_sA w 16 (w.1 2) (0 : Int32)) 17 (w.1 2) (-1 : Int32)).2 j = _
  rw [eqf_w 17 _ _ j (by omega), eqf_w 16 _ _ j (by omega)]
theorem neS_e {M : Nat} (hM : w.1 2 = nI M) (hM2 : M < 60) (j e : Nat) (he : ¬ e = M) : (neS w).2 j e = w.2 j e := by
  have q : ∀ (v : g_S) (k' : Nat) (x : Int32), (g_sA v k' (nI M) x).2 j e = v.2 j e := fun v k' x => by
    rw [rdA, n31 (by omega), if_neg (fun y => he y.2)]
  show (g_sA (g_sA w 16 (w.1 2) (0 : Int32)) 17 (w.1 2) (-1 : Int32)).2 j e = _
  rw [hM, q, q]
theorem neS_n {M : Nat} (hM : w.1 2 = nI M) (hM2 : M < 60) : (neS w).2 16 M = 0 ∧ (neS w).2 17 M = -1 := by
  have n0 : (nI M).toNatClampNeg = M := n31 (by omega)
  have q : ∀ (v : g_S) (k' : Nat) (x : Int32), (g_sA v k' (nI M) x).2 k' M = x := fun v k' x => by
    rw [rdA, if_pos ⟨rfl, n0.symm⟩]
  have e : (neS w).2 = (g_sA (g_sA w 16 (nI M) (0 : Int32)) 17 (nI M) (-1 : Int32)).2 := by
    unfold neS
    rw [hM]
    rfl
  rw [e]
  refine ⟨?_, ?_⟩
  · rw [eqf_w 17 _ _ 16 (by decide), q]
  · rw [q]
end JNS
end
section
section CLS
variable {g : Nat → Int32} {u w : g_S}
theorem fmcall_go {p1 p2 p3 p4 p5 p6 r : Int32} {w' : g_S} (hv1 : fm_isKnown p2 p5 = some (1 : Int32)) (hv2 : fm_isRange w p1 p3 p6 = some (1 : Int32)) (h : ¬ w.1 1 = (120 : Int32)) (f1 : fm_reason (g_sI w 0 0) p1 p2 p3 p4 p5 p6 = some (r, w')) :
    fm_call w p1 p2 p3 p4 p5 p6 = if 0 ≤ r then fm_call_90 w' p1 p2 p3 p4 p6 r (0 : Int32) (0 : Int32) (0 : Int32) else if ¬ w'.1 2 = (60 : Int32) then fm_call_90 w' p1 p2 p3 p4 p6 r (0 : Int32) (0 : Int32) (0 : Int32) else fm_call_90 w' p1 p2 p3 p4 p6 r (0 : Int32) (0 : Int32) (1 : Int32) := by
  unfold fm_call
  rw [bi_s hv1, if_pos (by decide)]
  unfold fm_call_15
  rw [bi_s hv2, if_pos (by decide)]
  unfold fm_call_31
  rw [if_pos h]
  unfold fm_call_45
  rw [bi_s (fm_thr_0 w)]
  dsimp only
  rw [if_pos rfl, bi_s f1]
theorem fccall_go {p1 p2 p3 p4 p5 p6 r : Int32} {u1 v4 : g_S} {N : Nat} (hN2 : N ≤ 120) (hc1 : fcJ_needCallData u p1 p2 p3 p5 p6 = some 0) (h : ¬ (120 : Int32) ≤ u.1 0) (hde : fcA_draft u p1 p2 p3 p4 p5 p6 = some (nI N, u1)) (hs : fcJ_seekReason u1 (nI N) = some v4) (D14 : v4.2 14 N = r) :
    fcJ_call u p1 p2 p3 p4 p5 p6 = if ¬ r = -1 then (ck r 121 <| some (0, nI N, g_sI (g_sA v4 13 (nI N) (v4.2 13 r.toNatClampNeg)) 0 ((v4.1 0) + (1 : Int32)))) else if (60 : Int32) ≤ v4.1 1 then some (4, (0 : Int32), v4) else (fcE_begin v4 p2 (nI N)).bind fun v9 => some (0, nI N, g_sI (g_sA v9.2 13 (nI N) v9.1) 0 ((v9.2.1 0) + (1 : Int32))) := by
  have E : ∀ {β : Type} (x : Option β), ck (nI N) 121 x = x := fun x => ck_nI (by omega) (by decide)
  unfold fcJ_call
  rw [bi_s hc1, if_pos rfl, if_neg h]
  unfold fcJ_call_28
  rw [bi_s nr1, if_pos rfl, bi_s hde]
  dsimp only
  rw [bi_s hs, E, gl_r, n31 (by omega), D14]
  by_cases q : r = -1
  · have q' : ¬ ¬ r = -1 := fun y => y q
    rw [if_neg q', if_neg q']
    by_cases h6 : (60 : Int32) ≤ v4.1 1
    · rw [if_pos h6, if_pos h6]
      unfold fcJ_call_90
      rw [bi_s nr0, if_neg (by decide)]
    · rw [if_neg h6, if_neg h6]
      unfold fcJ_call_90
      rw [bi_s nr1, if_pos rfl]
      refine congrArg _ (funext fun v9 => ?_)
      rw [E]
      rfl
  · rw [if_pos q, if_pos q, E]
    rfl
theorem RAS_a (R : RA u w) (S : RS u) {v4 w' : g_S} {N : Nat} {p1 p2 p3 p4 p6 r h : Int32} (hN : u.1 0 = nI N) (hN2 : N < 120) (hsb : SB u v4) (D : v4.2 7 N = p1 ∧ v4.2 8 N = p2 ∧ v4.2 9 N = p3 ∧ v4.2 10 N = p4 ∧ v4.2 12 N = p6 ∧ v4.2 14 N = r ∧ v4.2 15 N = h ∧ v4.2 16 N = 0)
    (f2 : w'.2 = w.2) (f4 : w'.1 1 = w.1 1) (f5 : w'.1 2 = w.1 2) (f6 : w'.1 3 = h) (hr0 : 0 ≤ r.toInt) (hr1 : r.toInt < (u.1 0).toInt) (ht : 0 ≤ p6.toInt) (hp : -1 ≤ p3.toInt ∧ p3.toInt ≤ 99999999) (W : g_S) (hW : W = nrS (g_sI w' 0 0) (nI N) p1 p2 p3 p4 p6 r (w'.1 3)) :
    RA (g_sI (g_sA v4 13 (nI N) (v4.2 13 r.toNatClampNeg)) 0 ((v4.1 0) + (1 : Int32))) (g_sI (g_sA W 12 (nI N) (W.2 12 r.toNatClampNeg)) 1 ((W.1 1) + (1 : Int32))) ∧ RS (g_sI (g_sA v4 13 (nI N) (v4.2 13 r.toNatClampNeg)) 0 ((v4.1 0) + (1 : Int32))) := by
  obtain ⟨D7, D8, D9, D10, D12, D14, D15, D16⟩ := D
  obtain ⟨b1, b2, b3⟩ := id hsb
  have n0 : (nI N).toNatClampNeg = N := n31 (by omega)
  have hNi : (u.1 0).toInt = N := by rw [hN, nI_toInt (by omega)]
  have hrN : (r.toNatClampNeg : Int) = r.toInt := cl_I hr0
  have W1 : W.1 1 = w.1 1 := by rw [hW]; exact f4
  have W2 : W.1 2 = w.1 2 := by rw [hW]; exact f5
  have Wo : ∀ k, (k < 7 ∨ k = 12 ∨ 16 ≤ k) → W.2 k = w.2 k := fun k hk => by
    rw [hW, nrS_o _ _ _ _ _ _ _ _ k hk]
    show w'.2 k = w.2 k
    rw [f2]
  have Wc : ∀ k c : Nat, c < N → W.2 k c = w.2 k c := fun k c hc => by
    rw [hW, nrS_c hN2 _ _ _ _ _ _ _ k c hc]
    show w'.2 k c = w.2 k c
    rw [f2]
  have Wr := nrS_r (w := g_sI w' 0 0) hN2 p1 p2 p3 p4 p6 r (w'.1 3)
  rw [← hW] at Wr
  obtain ⟨r7, r8, r9, r10, r11, r13, r15, r14⟩ := Wr
  have hv0 : ((v4.1 0) + (1 : Int32)).toInt = N + 1 := by rw [b1, hN, nI_1, nI_toInt (by omega)]; omega
  have hev : v4.2 13 r.toNatClampNeg = W.2 12 r.toNatClampNeg := by
    rw [b3 13 r.toNatClampNeg (by omega), Wo 12 (by omega)]
    exact (R.2.2.2.1 r.toNatClampNeg (by omega)).2.2.2.2.2.1
  have c17 : ∀ k, 17 ≤ k → (g_sA v4 13 (nI N) (v4.2 13 r.toNatClampNeg)).2 k = u.2 k := fun k hk => by
    rw [eqf_w 13 _ _ k (by omega), b2 k (Or.inr hk)]
  have cl : ∀ k, k < 7 → (g_sA v4 13 (nI N) (v4.2 13 r.toNatClampNeg)).2 k = u.2 k := fun k hk => by
    rw [eqf_w 13 _ _ k (by omega), b2 k (Or.inl hk)]
  have cc : ∀ k c : Nat, c < N → (g_sA v4 13 (nI N) (v4.2 13 r.toNatClampNeg)).2 k c = u.2 k c := fun k c hc => by
    rw [rdA, n0, if_neg (fun y => by have := y.2; omega), b3 k c (by omega)]
  have cn : ∀ k : Nat, ¬ k = 13 → (g_sA v4 13 (nI N) (v4.2 13 r.toNatClampNeg)).2 k N = v4.2 k N := fun k hk => eq_w 13 _ _ k N hk
  have c13 : (g_sA v4 13 (nI N) (v4.2 13 r.toNatClampNeg)).2 13 N = v4.2 13 r.toNatClampNeg := by rw [rdA, if_pos ⟨rfl, n0.symm⟩]
  have mn : ∀ k : Nat, ¬ k = 12 → (g_sA W 12 (nI N) (W.2 12 r.toNatClampNeg)).2 k N = W.2 k N := fun k hk => eq_w 12 _ _ k N hk
  have m12 : (g_sA W 12 (nI N) (W.2 12 r.toNatClampNeg)).2 12 N = W.2 12 r.toNatClampNeg := by rw [rdA, if_pos ⟨rfl, n0.symm⟩]
  have mc : ∀ k c : Nat, c < N → (g_sA W 12 (nI N) (W.2 12 r.toNatClampNeg)).2 k c = w.2 k c := fun k c hc => by
    rw [rdA, n0, if_neg (fun y => by have := y.2; omega), Wc k c hc]
  have mo : ∀ k, (k < 7 ∨ 16 ≤ k) → (g_sA W 12 (nI N) (W.2 12 r.toNatClampNeg)).2 k = w.2 k := fun k hk => by
    rw [eqf_w 12 _ _ k (by omega), Wo k (by omega)]
  have b10 : v4.1 1 = u.1 1 := by rw [b1]
  refine ⟨RA_add (N := N) R hNi hv0 ?_ ?_ (fun k hk => ⟨cl k hk, mo k (Or.inl hk)⟩) (fun k c _ _ hc => cc k c hc) (fun k c _ _ hc => mc k c hc) ?_ (fun e he => ?_), RS_add (N := N) S hNi hv0 ?_ (cl 6 (by decide)) (fun k c _ _ hc => cc k c hc) ?_ (fun _ => ?_) (fun e he => ⟨?_, ?_, ?_⟩) (fun e he q => ?_) (fun e he q => ?_)⟩
  · show (v4.1 0) + (1 : Int32) = (W.1 1) + (1 : Int32)
    rw [W1, b1, RA_z R]
  · show v4.1 1 = W.1 2
    rw [W2, b10, RA_e R]
  · refine ⟨(cn 7 (by decide)).trans (D7.trans (r7.symm.trans (mn 7 (by decide)).symm)), (cn 8 (by decide)).trans (D8.trans (r8.symm.trans (mn 8 (by decide)).symm)), (cn 9 (by decide)).trans (D9.trans (r9.symm.trans (mn 9 (by decide)).symm)), (cn 10 (by decide)).trans (D10.trans (r10.symm.trans (mn 10 (by decide)).symm)), (cn 12 (by decide)).trans (D12.trans (r11.symm.trans (mn 11 (by decide)).symm)), c13.trans (hev.trans m12.symm), (cn 14 (by decide)).trans (D14.trans (r13.symm.trans (mn 13 (by decide)).symm)), (cn 15 (by decide)).trans (D15.trans (f6.symm.trans (r15.symm.trans (mn 15 (by decide)).symm))), (cn 16 (by decide)).trans (D16.trans (r14.symm.trans (mn 14 (by decide)).symm))⟩
  · have he : (e : Int) < (v4.1 1).toInt := he
    rw [b10] at he
    have q := R.2.2.2.2 e he
    rw [← c17 17 (by decide), ← c17 20 (by decide), ← c17 21 (by decide), ← c17 22 (by decide), ← mo 16 (by decide), ← mo 17 (by decide), ← mo 18 (by decide), ← mo 19 (by decide)] at q
    exact q
  · show (u.1 1).toInt ≤ (v4.1 1).toInt
    rw [b10]; exact Int.le_refl _
  · show 0 ≤ ((g_sA v4 13 (nI N) (v4.2 13 r.toNatClampNeg)).2 12 N).toInt ∧ -1 ≤ ((g_sA v4 13 (nI N) (v4.2 13 r.toNatClampNeg)).2 9 N).toInt ∧ ((g_sA v4 13 (nI N) (v4.2 13 r.toNatClampNeg)).2 9 N).toInt ≤ 99999999 ∧ ((g_sA v4 13 (nI N) (v4.2 13 r.toNatClampNeg)).2 13 N).toInt < (v4.1 1).toInt ∧ ((g_sA v4 13 (nI N) (v4.2 13 r.toNatClampNeg)).2 14 N).toInt ≤ N
    rw [cn 12 (by decide), cn 9 (by decide), cn 14 (by decide), c13, D12, D9, D14, b10, b3 13 r.toNatClampNeg (by omega)]
    exact ⟨ht, hp.1, hp.2, (S.2.1 r.toNatClampNeg (by omega)).2.2.2.1, by omega⟩
  · show (g_sA v4 13 (nI N) (v4.2 13 r.toNatClampNeg)).2 13 ((g_sA v4 13 (nI N) (v4.2 13 r.toNatClampNeg)).2 14 N).toNatClampNeg = (g_sA v4 13 (nI N) (v4.2 13 r.toNatClampNeg)).2 13 N
    rw [cn 14 (by decide), D14, c13, cc 13 r.toNatClampNeg (by omega), b3 13 r.toNatClampNeg (by omega)]
  · exact congrFun (c17 17 (by decide)) e
  · exact congrFun (c17 18 (by decide)) e
  · exact congrFun (c17 19 (by decide)) e
  · show ¬ ((g_sA v4 13 (nI N) (v4.2 13 r.toNatClampNeg)).2 14 N).toInt < 0
    rw [cn 14 (by decide), D14]; omega
  · have q : (e : Int) < (v4.1 1).toInt := q
    rw [b10] at q
    exact absurd q he
theorem RAS_b (R : RA u w) (S : RS u) {v4 w' : g_S} {N M : Nat} {p1 p2 p3 p4 p6 r h : Int32} (hN : u.1 0 = nI N) (hN2 : N < 120) (hM : u.1 1 = nI M) (hM2 : M < 60) (hsb : SB u v4) (D : v4.2 7 N = p1 ∧ v4.2 8 N = p2 ∧ v4.2 9 N = p3 ∧ v4.2 10 N = p4 ∧ v4.2 12 N = p6 ∧ v4.2 14 N = r ∧ v4.2 15 N = h ∧ v4.2 16 N = 0)
    (f2 : w'.2 = w.2) (f4 : w'.1 1 = w.1 1) (f5 : w'.1 2 = w.1 2) (f6 : w'.1 3 = h) (hr : r = -1) (ht : 0 ≤ p6.toInt) (hp : -1 ≤ p3.toInt ∧ p3.toInt ≤ 99999999) (W : g_S) (hW : W = nrS (g_sI w' 0 0) (nI N) p1 p2 p3 p4 p6 r (w'.1 3)) (B : g_S) (hB : B = bgS v4 p2 (nI N)) (K : g_S) (hK : K = neS W) :
    RA (g_sI (g_sA B 13 (nI N) (v4.1 1)) 0 ((B.1 0) + (1 : Int32))) (g_sI (g_sA K 12 (nI N) (W.1 2)) 1 ((K.1 1) + (1 : Int32))) ∧ RS (g_sI (g_sA B 13 (nI N) (v4.1 1)) 0 ((B.1 0) + (1 : Int32))) := by
  obtain ⟨D7, D8, D9, D10, D12, D14, D15, D16⟩ := D
  obtain ⟨b1, b2, b3⟩ := id hsb
  have zm : (-1 : Int32).toInt = -1 := by decide
  have n0 : (nI N).toNatClampNeg = N := n31 (by omega)
  have hNi : (u.1 0).toInt = N := by rw [hN, nI_toInt (by omega)]
  have hMi : (u.1 1).toInt = M := by rw [hM, nI_toInt (by omega)]
  have v1 : v4.1 1 = nI M := by rw [b1]; exact hM
  have B0 : B.1 0 = nI N := by rw [hB]; show v4.1 0 = nI N; rw [b1]; exact hN
  have B1 : B.1 1 = nI (M + 1) := by rw [hB]; show (v4.1 1) + (1 : Int32) = _; rw [v1, nI_1]
  have W1 : W.1 1 = w.1 1 := by rw [hW]; exact f4
  have W2 : W.1 2 = nI M := by rw [hW]; show w'.1 2 = nI M; rw [f5, ← RA_e R]; exact hM
  have K1 : K.1 1 = nI N := by rw [hK]; show W.1 1 = nI N; rw [W1, ← RA_z R]; exact hN
  have K2 : K.1 2 = nI (M + 1) := by rw [hK]; show (W.1 2) + (1 : Int32) = _; rw [W2, nI_1]
  have Wo : ∀ k, (k < 7 ∨ k = 12 ∨ 16 ≤ k) → W.2 k = w.2 k := fun k hk => by
    rw [hW, nrS_o _ _ _ _ _ _ _ _ k hk]
    show w'.2 k = w.2 k
    rw [f2]
  have Wc : ∀ k c : Nat, c < N → W.2 k c = w.2 k c := fun k c hc => by
    rw [hW, nrS_c hN2 _ _ _ _ _ _ _ k c hc]
    show w'.2 k c = w.2 k c
    rw [f2]
  have Wr := nrS_r (w := g_sI w' 0 0) hN2 p1 p2 p3 p4 p6 r (w'.1 3)
  rw [← hW] at Wr
  obtain ⟨r7, r8, r9, r10, r11, r13, r15, r14⟩ := Wr
  have Bo : ∀ j, (j < 17 ∨ 20 < j) → B.2 j = v4.2 j := fun j hj => by rw [hB]; exact bgS_o _ _ j hj
  have Be : ∀ j e : Nat, ¬ e = M → B.2 j e = v4.2 j e := fun j e he => by rw [hB]; exact bgS_e v1 hM2 _ _ j e he
  have Bn : B.2 17 M = 0 ∧ B.2 18 M = p2 ∧ B.2 19 M = nI N ∧ B.2 20 M = -1 := by rw [hB]; exact bgS_n v1 hM2 _ _
  have Ko : ∀ j, (j < 16 ∨ 17 < j) → K.2 j = W.2 j := fun j hj => by rw [hK]; exact neS_o j hj
  have Ke : ∀ j e : Nat, ¬ e = M → K.2 j e = W.2 j e := fun j e he => by rw [hK]; exact neS_e W2 hM2 j e he
  have Kn : K.2 16 M = 0 ∧ K.2 17 M = -1 := by rw [hK]; exact neS_n W2 hM2
  rw [v1, W2]
  have hv0 : ((B.1 0) + (1 : Int32)).toInt = N + 1 := by rw [B0, nI_1, nI_toInt (by omega)]; omega
  have hB1 : (B.1 1).toInt = M + 1 := by rw [B1, nI_toInt (by omega)]; omega
  have cl : ∀ k, k < 7 → (g_sA B 13 (nI N) (nI M)).2 k = u.2 k := fun k hk => by
    rw [eqf_w 13 _ _ k (by omega), Bo k (by omega), b2 k (Or.inl hk)]
  have cc : ∀ k c : Nat, k < 17 → c < N → (g_sA B 13 (nI N) (nI M)).2 k c = u.2 k c := fun k c hk hc => by
    rw [rdA, n0, if_neg (fun y => by have := y.2; omega), Bo k (by omega), b3 k c (by omega)]
  have cn : ∀ k : Nat, k < 17 → ¬ k = 13 → (g_sA B 13 (nI N) (nI M)).2 k N = v4.2 k N := fun k hk h13 => by rw [eq_w 13 _ _ k N h13, Bo k (by omega)]
  have c13 : (g_sA B 13 (nI N) (nI M)).2 13 N = nI M := by rw [rdA, if_pos ⟨rfl, n0.symm⟩]
  have ce : ∀ k e : Nat, 17 ≤ k → ¬ e = M → (g_sA B 13 (nI N) (nI M)).2 k e = u.2 k e := fun k e hk he => by
    rw [eq_w 13 _ _ k e (by omega), Be k e he, b2 k (Or.inr hk)]
  have cE : ∀ k : Nat, 17 ≤ k → (g_sA B 13 (nI N) (nI M)).2 k M = B.2 k M := fun k hk => eq_w 13 _ _ k M (by omega)
  have mn : ∀ k : Nat, k < 16 → ¬ k = 12 → (g_sA K 12 (nI N) (nI M)).2 k N = W.2 k N := fun k hk h12 => by rw [eq_w 12 _ _ k N h12, Ko k (by omega)]
  have m12 : (g_sA K 12 (nI N) (nI M)).2 12 N = nI M := by rw [rdA, if_pos ⟨rfl, n0.symm⟩]
  have mc : ∀ k c : Nat, k < 16 → c < N → (g_sA K 12 (nI N) (nI M)).2 k c = w.2 k c := fun k c hk hc => by
    rw [rdA, n0, if_neg (fun y => by have := y.2; omega), Ko k (by omega), Wc k c hc]
  have ml : ∀ k, k < 7 → (g_sA K 12 (nI N) (nI M)).2 k = w.2 k := fun k hk => by
    rw [eqf_w 12 _ _ k (by omega), Ko k (by omega), Wo k (by omega)]
  have me : ∀ k e : Nat, 16 ≤ k → ¬ e = M → (g_sA K 12 (nI N) (nI M)).2 k e = w.2 k e := fun k e hk he => by
    rw [eq_w 12 _ _ k e (by omega), Ke k e he, Wo k (by omega)]
  have mE : ∀ k : Nat, 16 ≤ k → (g_sA K 12 (nI N) (nI M)).2 k M = K.2 k M := fun k hk => eq_w 12 _ _ k M (by omega)
  have nm : (nI M).toInt = M := nI_toInt (by omega)
  refine ⟨RA_add (N := N) R hNi hv0 ?_ ?_ (fun k hk => ⟨cl k hk, ml k hk⟩) (fun k c _ hk hc => cc k c hk hc) (fun k c _ hk hc => mc k c hk hc) ?_ (fun e he => ?_), RS_add (N := N) S hNi hv0 ?_ (cl 6 (by decide)) (fun k c _ hk hc => cc k c hk hc) ?_ (fun q => ?_) (fun e he => ⟨?_, ?_, ?_⟩) (fun e he q => ?_) (fun e he q => ?_)⟩
  · show (B.1 0) + (1 : Int32) = (K.1 1) + (1 : Int32)
    rw [B0, K1]
  · show B.1 1 = K.1 2
    rw [B1, K2]
  · refine ⟨(cn 7 (by decide) (by decide)).trans (D7.trans (r7.symm.trans (mn 7 (by decide) (by decide)).symm)), (cn 8 (by decide) (by decide)).trans (D8.trans (r8.symm.trans (mn 8 (by decide) (by decide)).symm)), (cn 9 (by decide) (by decide)).trans (D9.trans (r9.symm.trans (mn 9 (by decide) (by decide)).symm)), (cn 10 (by decide) (by decide)).trans (D10.trans (r10.symm.trans (mn 10 (by decide) (by decide)).symm)), (cn 12 (by decide) (by decide)).trans (D12.trans (r11.symm.trans (mn 11 (by decide) (by decide)).symm)), c13.trans m12.symm, (cn 14 (by decide) (by decide)).trans (D14.trans (r13.symm.trans (mn 13 (by decide) (by decide)).symm)), (cn 15 (by decide) (by decide)).trans (D15.trans (f6.symm.trans (r15.symm.trans (mn 15 (by decide) (by decide)).symm))), (cn 16 (by decide) (by decide)).trans (D16.trans (r14.symm.trans (mn 14 (by decide) (by decide)).symm))⟩
  · have he : (e : Int) < (B.1 1).toInt := he
    by_cases y : e = M
    · rw [y]
      show (g_sA B 13 (nI N) (nI M)).2 17 M = (g_sA K 12 (nI N) (nI M)).2 16 M ∧ (¬ (g_sA B 13 (nI N) (nI M)).2 17 M = 3 → (g_sA B 13 (nI N) (nI M)).2 20 M = (g_sA K 12 (nI N) (nI M)).2 17 M ∧ (¬ (g_sA B 13 (nI N) (nI M)).2 20 M = -1 → _))
      rw [cE 17 (by decide), cE 20 (by decide), mE 16 (by decide), mE 17 (by decide), Bn.1, Bn.2.2.2, Kn.1, Kn.2]
      exact ⟨rfl, fun _ => ⟨rfl, fun q => absurd rfl q⟩⟩
    · have q := R.2.2.2.2 e (by omega)
      rw [← ce 17 e (by decide) y, ← ce 20 e (by decide) y, ← ce 21 e (by decide) y, ← ce 22 e (by decide) y, ← me 16 e (by decide) y, ← me 17 e (by decide) y, ← me 18 e (by decide) y, ← me 19 e (by decide) y] at q
      exact q
  · show (u.1 1).toInt ≤ (B.1 1).toInt
    omega
  · show 0 ≤ ((g_sA B 13 (nI N) (nI M)).2 12 N).toInt ∧ -1 ≤ ((g_sA B 13 (nI N) (nI M)).2 9 N).toInt ∧ ((g_sA B 13 (nI N) (nI M)).2 9 N).toInt ≤ 99999999 ∧ ((g_sA B 13 (nI N) (nI M)).2 13 N).toInt < (B.1 1).toInt ∧ ((g_sA B 13 (nI N) (nI M)).2 14 N).toInt ≤ N
    rw [cn 12 (by decide) (by decide), cn 9 (by decide) (by decide), cn 14 (by decide) (by decide), c13, D12, D9, D14, hr, nm, zm]
    exact ⟨ht, hp.1, hp.2, by omega, by omega⟩
  · have q : 0 ≤ ((g_sA B 13 (nI N) (nI M)).2 14 N).toInt := q
    rw [cn 14 (by decide) (by decide), D14, hr, zm] at q
    exact absurd q (by decide)
  · exact ce 17 e (by decide) (by omega)
  · exact ce 18 e (by decide) (by omega)
  · exact ce 19 e (by decide) (by omega)
  · have q : ((g_sA B 13 (nI N) (nI M)).2 13 N).toInt = e := q
    rw [c13, nm] at q
    exfalso; omega
  · have q : (e : Int) < (B.1 1).toInt := q
    obtain rfl : e = M := by omega
    show ((g_sA B 13 (nI N) (nI e)).2 19 e).toInt = N ∧ ((g_sA B 13 (nI N) (nI e)).2 13 N).toInt = e ∧ (g_sA B 13 (nI N) (nI e)).2 14 N = -1 ∧ (g_sA B 13 (nI N) (nI e)).2 18 e = (g_sA B 13 (nI N) (nI e)).2 8 N
    rw [cE 19 (by decide), cE 18 (by decide), cn 14 (by decide) (by decide), cn 8 (by decide) (by decide), c13, Bn.2.1, Bn.2.2.1, D14, D8, nm, nI_toInt (by omega)]
    exact ⟨rfl, rfl, hr, rfl⟩
end CLS
end
section
section CLK
variable {g : Nat → Int32} {u w : g_S}
theorem fmcall_1 {p1 p2 p3 p4 p5 p6 v2 : Int32} (hv1 : fm_isKnown p2 p5 = some (0 : Int32)) (hv2 : fm_isRange w p1 p3 p6 = some v2) : fm_call w p1 p2 p3 p4 p5 p6 = some ((0 : Int32), g_sI w 0 1) := by
  have h45 : ∀ y2 y3 : Int32, fm_call_45 w p1 p2 p3 p4 p5 p6 (1 : Int32) y2 y3 = some ((0 : Int32), g_sI w 0 1) := fun y2 y3 => by
    unfold fm_call_45
    rw [bi_s (fm_thr_1 w y2 y3)]
    dsimp only
    rw [if_neg (by decide)]
  have h31 : ∀ y2 : Int32, fm_call_31 w p1 p2 p3 p4 p5 p6 (1 : Int32) y2 = some ((0 : Int32), g_sI w 0 1) := fun y2 => by
    unfold fm_call_31
    by_cases q : w.1 1 = (120 : Int32)
    · rw [if_neg (fun y => y q)]; exact h45 _ _
    · rw [if_pos q]; exact h45 _ _
  unfold fm_call
  rw [bi_s hv1, if_neg (fun q => q rfl)]
  unfold fm_call_15
  rw [bi_s hv2]
  by_cases q : v2 = 0
  · rw [if_neg (fun y => y q)]; exact h31 _
  · rw [if_pos q]; exact h31 _
theorem fmcall_2 {p1 p2 p3 p4 p5 p6 : Int32} (hv1 : fm_isKnown p2 p5 = some (1 : Int32)) (hv2 : fm_isRange w p1 p3 p6 = some (0 : Int32)) : fm_call w p1 p2 p3 p4 p5 p6 = some ((0 : Int32), g_sI w 0 2) := by
  have h45 : ∀ y3 : Int32, fm_call_45 w p1 p2 p3 p4 p5 p6 (0 : Int32) (1 : Int32) y3 = some ((0 : Int32), g_sI w 0 2) := fun y3 => by
    unfold fm_call_45
    rw [bi_s (fm_thr_2 w y3)]
    dsimp only
    rw [if_neg (by decide)]
  unfold fm_call
  rw [bi_s hv1, if_pos (by decide)]
  unfold fm_call_15
  rw [bi_s hv2, if_neg (fun q => q rfl)]
  unfold fm_call_31
  by_cases q : w.1 1 = (120 : Int32)
  · rw [if_neg (fun y => y q)]; exact h45 _
  · rw [if_pos q]; exact h45 _
theorem fmcall_3 {p1 p2 p3 p4 p5 p6 : Int32} (hv1 : fm_isKnown p2 p5 = some (1 : Int32)) (hv2 : fm_isRange w p1 p3 p6 = some (1 : Int32)) (h : w.1 1 = (120 : Int32)) : fm_call w p1 p2 p3 p4 p5 p6 = some ((0 : Int32), g_sI w 0 3) := by
  unfold fm_call
  rw [bi_s hv1, if_pos (by decide)]
  unfold fm_call_15
  rw [bi_s hv2, if_pos (by decide)]
  unfold fm_call_31
  rw [if_neg (fun y => y h)]
  unfold fm_call_45
  rw [bi_s (fm_thr_3 w)]
  dsimp only
  rw [if_neg (by decide)]
theorem lk_call (R : RA u w) (S : RS u) (I : IC g u) (J : IM g w) (p1 p2 p3 p4 p5 p6 : Int32) : ∃ rv rz, fcJ_call u p1 p2 p3 p4 p5 p6 = some rv ∧ fm_call w p1 p2 p3 p4 p5 p6 = some rz ∧ RA rv.2.2 rz.2 ∧ RS rv.2.2 ∧ rz.2.1 0 = lwc [1, 2, 4] rv.1 ∧ (rv.1 = 0 → rv.2.1 = rz.1) := by
  have z := IC_s I
  have zm : (-1 : Int32).toInt = -1 := by decide
  have z0 : (0 : Int32).toInt = 0 := by decide
  have z120 : (120 : Int32).toInt = 120 := by decide
  have z60 : (60 : Int32).toInt = 60 := by decide
  obtain ⟨c1, hc1, hc⟩ := okl_fcJ_needCallData I (p1 := p1) (p2 := p2) (p3 := p3) (p4 := p5) (p5 := p6)
  obtain ⟨v1, hv1, hv⟩ := okl_fm_isKnown (p0 := p2) (p1 := p5)
  obtain ⟨v2, hv2, hr⟩ := okl_fm_isRange J (p1 := p1) (p2 := p3) (p3 := p6)
  rw [← lat_eq R I] at hr
  rcases hc with ⟨a1, a2⟩ | ⟨a1, a2, a3⟩ | ⟨a1, a2, a3⟩
  · have E1 : fcJ_call u p1 p2 p3 p4 p5 p6 = some (1, (0 : Int32), u) := by
      unfold fcJ_call
      rw [bi_s hc1, a1, if_neg (by decide)]
    have v0 : v1 = 0 := ik0 (by omega)
    rw [v0] at hv1
    exact ⟨_, _, E1, fmcall_1 hv1 hv2, RA_0 R 1, S, by show (1 : Int32) = lwc [1, 2, 4] 1; decide, fun q => by simp at q⟩
  · have E1 : fcJ_call u p1 p2 p3 p4 p5 p6 = some (2, (0 : Int32), u) := by
      unfold fcJ_call
      rw [bi_s hc1, a1, if_neg (by decide)]
    have v0 : v1 = 1 := ik1 (by omega)
    have v20 : v2 = 0 := ik0 (by omega)
    rw [v0] at hv1
    rw [v20] at hv2
    exact ⟨_, _, E1, fmcall_2 hv1 hv2, RA_0 R 2, S, by show (2 : Int32) = lwc [1, 2, 4] 2; decide, fun q => by simp at q⟩
  · have v0 : v1 = 1 := ik1 (by omega)
    have v20 : v2 = 1 := ik1 (by omega)
    rw [v0] at hv1
    rw [v20] at hv2
    rw [a1] at hc1
    by_cases h120 : (120 : Int32) ≤ u.1 0
    · have E1 : fcJ_call u p1 p2 p3 p4 p5 p6 = some (4, (0 : Int32), u) := by
        unfold fcJ_call
        rw [bi_s hc1, if_pos rfl, if_pos h120]
        unfold fcJ_call_28
        rw [bi_s nr0, if_neg (by decide)]
      have e120 : w.1 1 = (120 : Int32) := by
        have := Int32.le_iff_toInt_le.mp h120
        rw [← RA_z R]
        exact Int32.toInt_inj.mp (by omega)
      exact ⟨_, _, E1, fmcall_3 hv1 hv2 e120, RA_0 R 3, S, by show (3 : Int32) = lwc [1, 2, 4] 4; decide, fun q => by simp at q⟩
    · have h120' := mt Int32.le_iff_toInt_le.mpr h120
      have n120 : ¬ w.1 1 = (120 : Int32) := fun q => by rw [← RA_z R] at q; rw [q] at h120'; exact h120' (Int.le_refl _)
      obtain ⟨N, r, h, u1, v4, w', hN, hN2, hde, hs, hsb, D, f1, f2, f3, f4, f5, f6, f8, f9, I4, ht⟩ := dseek R S I J (p1 := p1) (p2 := p2) (p3 := p3) (p4 := p4) (p5 := p5) (p6 := p6) (by omega) (by omega) (by omega)
      have hNi : (u.1 0).toInt = N := by rw [hN, nI_toInt (by omega)]
      have hN3 : N < 120 := by omega
      have E1 := fccall_go hN2 hc1 h120 hde hs D.2.2.2.2.2.1
      have E2 := fmcall_go hv1 hv2 n120 f1
      have w1N : w'.1 1 = nI N := by rw [f4, ← RA_z R]; exact hN
      by_cases q : r = -1
      · rw [if_neg (fun y => y q)] at E1
        rw [if_neg (fun y => by rw [q] at y; exact absurd y (by decide))] at E2
        have b10 : v4.1 1 = u.1 1 := by rw [hsb.1]
        by_cases h60 : (60 : Int32) ≤ v4.1 1
        · have e60 : w'.1 2 = (60 : Int32) := by
            have := Int32.le_iff_toInt_le.mp h60
            rw [b10] at this
            rw [f5, ← RA_e R]
            exact Int32.toInt_inj.mp (by omega)
          rw [if_pos h60] at E1
          rw [if_neg (fun y => y e60), c90x] at E2
          exact ⟨_, _, E1, E2, RA_0 (RA_i f2 f4 f5 (RA_sb hsb R)) 3, RS_sb hsb S, by show (3 : Int32) = lwc [1, 2, 4] 4; decide, fun q => by simp at q⟩
        · have h60' := mt Int32.le_iff_toInt_le.mpr h60
          rw [b10] at h60'
          obtain ⟨M, hM, hM2, -⟩ := nat_of (p := u.1 1) (n := 60) (by omega)
          have w2M : w'.1 2 = nI M := by rw [f5, ← RA_e R]; exact hM
          have n60 : ¬ w'.1 2 = (60 : Int32) := fun y => by rw [f5, ← RA_e R] at y; rw [y] at h60'; exact h60' (Int.le_refl _)
          rw [if_neg h60, bi_s (begin_e I4 (by rw [b10]; omega) p2 (nI N))] at E1
          rw [if_pos n60, c90 w1N hN3, if_neg (fun y => by rw [q] at y; exact absurd y (by decide))] at E2
          have hW2 : (nrS (g_sI w' 0 0) (nI N) p1 p2 p3 p4 p6 r (w'.1 3)).1 2 = w'.1 2 := rfl
          have hne := newEvent_e (w := nrS (g_sI w' 0 0) (nI N) p1 p2 p3 p4 p6 r (w'.1 3)) (by rw [hW2, w2M, nI_toInt (by omega)]; omega) (by rw [hW2, w2M, nI_toInt (by omega)]; omega)
          rw [bi_s hne] at E2
          dsimp only at E1 E2
          rw [c199 hN3] at E2
          obtain ⟨ra, rs⟩ := RAS_b R S hN hN3 hM (by omega) hsb D f2 f4 f5 f6 q ht (by omega) _ rfl _ rfl _ rfl
          exact ⟨_, _, E1, E2, ra, rs, by show (0 : Int32) = lwc [1, 2, 4] 0; decide, fun _ => rfl⟩
      · have hr0 : 0 ≤ r.toInt := by
          rcases Int.lt_or_le r.toInt 0 with y | y
          · exact absurd (Int32.toInt_inj.mp (by omega)) q
          · exact y
        rw [if_pos q, ck_in (vp_I hr0 (by omega))] at E1
        rw [if_pos (Int32.le_iff_toInt_le.mpr (by omega)), c90 w1N hN3, if_pos (Int32.le_iff_toInt_le.mpr (by omega)), ck_in (vp_I hr0 (by omega)), c199 hN3] at E2
        obtain ⟨ra, rs⟩ := RAS_a R S hN hN3 hsb D f2 f4 f5 f6 hr0 f9 ht (by omega) _ rfl
        exact ⟨_, _, E1, E2, ra, rs, by show (0 : Int32) = lwc [1, 2, 4] 0; decide, fun _ => rfl⟩
end CLK
end
section
section RDK
variable {g : Nat → Int32} {u w : g_S}
theorem ag2 (R : RA u w) (S : RS u) (I : IC g u) {c d : Nat} (hc : (c : Int) < (u.1 0).toInt) (hd : (d : Int) < (u.1 0).toInt) : ∃ v, fcJ_agreement u (nI c) (nI d) = some v ∧ fm_meets w (nI c) (w.2 8 d) (w.2 9 d) (w.2 10 d) (w.2 11 d) = some v := by
  have z := IC_s I
  obtain ⟨k, hk8, hk⟩ := kd_of I d
  obtain ⟨q7, q8, q9, q10, q12, -⟩ := R.2.2.2.1 c hc
  obtain ⟨r7, r8, r9, r10, r12, -⟩ := R.2.2.2.1 d hd
  obtain ⟨s12, s9, -⟩ := S.2.1 c hc
  obtain ⟨t12, t9, -⟩ := S.2.1 d hd
  have e1 := agr_c (u := u) (c := c) (d := d) (k := k) (by omega) (by omega) hk hk8
  have e2 := agr_m (w := w) (c := c) (k := k) (p := u.2 9 d) (x := u.2 10 d) (t := u.2 12 d) (by omega) hk8 t12 (by rw [← q12]; exact s12) t9 (by rw [← q9]; exact s9)
  rw [← q9, ← q10, ← q12, ← RA_k R 0 (by decide), ← RA_k R 1 (by decide), ← RA_k R 2 (by decide), ← RA_k R 3 (by decide), ← RA_k R 4 (by decide)] at e2
  rw [← r8, ← r9, ← r10, ← r12, hk]
  exact ⟨_, e1, e2⟩
theorem lk_agree (R : RA u w) (S : RS u) (I : IC g u) (J : IM g w) (p1 p2 : Int32) : ∃ rv rz, fcJ_agree u p1 p2 = some rv ∧ fm_agree w p1 p2 = some rz ∧ RA u rz.2 ∧ rz.2.1 0 = lwc [1] rv.1 ∧ (rv.1 = 0 → rv.2 = rz.1) := by
  have z := IC_s I
  by_cases h : (0 ≤ p1.toInt ∧ p1.toInt < (u.1 0).toInt) ∧ (0 ≤ p2.toInt ∧ p2.toInt < (u.1 0).toInt) ∧ ¬ p1 = p2
  · obtain ⟨h1, h2, h3⟩ := h
    obtain ⟨a, ha, ha2, ha3⟩ := nat_of h1
    obtain ⟨b, hb, hb2, hb3⟩ := nat_of h2
    have hab : ¬ a = b := fun q => h3 (by rw [ha, hb, q])
    have E2a : fm_agree w p1 p2 = if p2 ≤ p1 then fm_agree_57 (g_sI w 0 0) p1 p2 p2 else fm_agree_57 (g_sI w 0 0) p1 p2 p1 := by
      unfold fm_agree
      rw [bi_s (isc1 J (by rw [← RA_z R]; exact h1)), if_neg (by decide), bi_s (isc1 J (by rw [← RA_z R]; exact h2)), if_neg (by decide), if_neg h3]
      unfold fm_agree_26
      rw [if_pos (by decide)]
      unfold fm_agree_37
      rw [bi_s (fm_thr_0 w)]
      dsimp only
      rw [if_pos rfl]
    have n120 : ∀ {c : Nat}, (c : Int) < (u.1 0).toInt → c < 120 := fun hc => by omega
    rcases Nat.lt_or_ge a b with q | q
    · obtain ⟨v, e1, e2⟩ := ag2 R S I ha2 hb2
      have E1 : fcJ_agree u p1 p2 = some (0, v) := by
        unfold fcJ_agree
        rw [bi_s (two_c1 h1 h2 h3), if_pos rfl, ha, hb, if_neg (fun y => by have := (nI_ltI hb3 ha3).mp y; omega), if_pos ((nI_ltI ha3 hb3).mpr q), bi_s e1]
      have E2 : fm_agree w p1 p2 = some (v, g_sI w 0 0) := by
        rw [E2a, ha, hb, if_neg (fun y => by have := (nI_leI hb3 ha3).mp y; omega)]
        unfold fm_agree_57
        rw [gl_r, Int32.add_comm (nI a) (nI b), Int32.add_sub_cancel, ck_nI (n120 hb2) (by decide), ck_nI (n120 hb2) (by decide), ck_nI (n120 hb2) (by decide), ck_nI (n120 hb2) (by decide), n31 (by have := n120 hb2; omega)]
        have e3 : fm_meets (g_sI w 0 0) (nI a) ((g_sI w 0 0).2 8 b) ((g_sI w 0 0).2 9 b) ((g_sI w 0 0).2 10 b) ((g_sI w 0 0).2 11 b) = some v := by
          obtain ⟨v', e1', e2'⟩ := ag2 (w := g_sI w 0 0) (RA_0 R 0) S I ha2 hb2
          rw [e2', some_u e1' e1]
        rw [bi_s e3]
      exact ⟨_, _, E1, E2, RA_0 R 0, by show (0 : Int32) = lwc [1] 0; decide, fun _ => rfl⟩
    · obtain ⟨v, e1, e2⟩ := ag2 R S I hb2 ha2
      have E1 : fcJ_agree u p1 p2 = some (0, v) := by
        unfold fcJ_agree
        rw [bi_s (two_c1 h1 h2 h3), if_pos rfl, ha, hb, if_pos ((nI_ltI hb3 ha3).mpr (by omega)), if_neg (fun y => by have := (nI_ltI ha3 hb3).mp y; omega), bi_s e1]
      have E2 : fm_agree w p1 p2 = some (v, g_sI w 0 0) := by
        rw [E2a, ha, hb, if_pos ((nI_leI hb3 ha3).mpr q)]
        unfold fm_agree_57
        rw [gl_r, Int32.add_sub_cancel, ck_nI (n120 ha2) (by decide), ck_nI (n120 ha2) (by decide), ck_nI (n120 ha2) (by decide), ck_nI (n120 ha2) (by decide), n31 (by have := n120 ha2; omega)]
        have e3 : fm_meets (g_sI w 0 0) (nI b) ((g_sI w 0 0).2 8 a) ((g_sI w 0 0).2 9 a) ((g_sI w 0 0).2 10 a) ((g_sI w 0 0).2 11 a) = some v := by
          obtain ⟨v', e1', e2'⟩ := ag2 (w := g_sI w 0 0) (RA_0 R 0) S I hb2 ha2
          rw [e2', some_u e1' e1]
        rw [bi_s e3]
      exact ⟨_, _, E1, E2, RA_0 R 0, by show (0 : Int32) = lwc [1] 0; decide, fun _ => rfl⟩
  · have E1 : fcJ_agree u p1 p2 = some (1, (0 : Int32)) := by
      unfold fcJ_agree
      rw [bi_s (two_c0 h), if_neg (by decide)]
    have h26 : fm_agree_26 w p1 p2 (0 : Int32) = some ((0 : Int32), g_sI w 0 1) := by
      unfold fm_agree_26
      rw [if_neg (fun q => q rfl)]
      unfold fm_agree_37
      rw [bi_s (fm_thr_1 w 0 0)]
      dsimp only
      rw [if_neg (by decide)]
    have E2 : fm_agree w p1 p2 = some ((0 : Int32), g_sI w 0 1) := by
      rw [RA_z R] at h
      unfold fm_agree
      by_cases h1 : 0 ≤ p1.toInt ∧ p1.toInt < (w.1 1).toInt
      · rw [bi_s (isc1 J h1), if_neg (by decide)]
        by_cases h2 : 0 ≤ p2.toInt ∧ p2.toInt < (w.1 1).toInt
        · rw [bi_s (isc1 J h2), if_neg (by decide)]
          by_cases h3 : p1 = p2
          · rw [if_pos h3]; exact h26
          · exact absurd ⟨h1, h2, h3⟩ h
        · rw [bi_s (isc0 J h2), if_pos rfl]; exact h26
      · rw [bi_s (isc0 J h1), if_pos rfl]; exact h26
    exact ⟨_, _, E1, E2, RA_0 R 1, by show (1 : Int32) = lwc [1] 1; decide, fun q => by simp at q⟩
theorem lk_share (R : RA u w) (S : RS u) (I : IC g u) (J : IM g w) (p1 p2 : Int32) : ∃ rv rz, fcJ_share u p1 p2 = some rv ∧ fm_share w p1 p2 = some rz ∧ RA u rz.2 ∧ rz.2.1 0 = lwc [1, 5] rv.1 ∧ (rv.1 = 0 → rv.2 = rz.1) := by
  have z := IC_s I
  by_cases h : (0 ≤ p1.toInt ∧ p1.toInt < (u.1 0).toInt) ∧ (0 ≤ p2.toInt ∧ p2.toInt < (u.1 0).toInt) ∧ ¬ p1 = p2
  · obtain ⟨h1, h2, h3⟩ := h
    obtain ⟨a, ha, ha2, ha3⟩ := nat_of h1
    obtain ⟨b, hb, hb2, hb3⟩ := nat_of h2
    have hab : ¬ a = b := fun q => h3 (by rw [ha, hb, q])
    have hm : (((if a < b then b else a) : Nat) : Int) < (u.1 0).toInt := by split <;> assumption
    obtain ⟨k, hk8, hk⟩ := kd_of I (if a < b then b else a)
    have qm := (R.2.2.2.1 _ hm).2.1
    have qa := (R.2.2.2.1 a ha2).2.2.2.1
    have qb := (R.2.2.2.1 b hb2).2.2.2.1
    have E1 := share_c I ha2 hb2 hab rfl hk8 hk
    have E2 := share_m J (by rw [← RA_z R]; exact ha2) (by rw [← RA_z R]; exact hb2) hab rfl hk8 (by rw [← qm]; exact hk)
    rw [← qa, ← qb, ← RA_k R 4 (by decide)] at E2
    rw [← ha, ← hb] at E1 E2
    unfold shR at E1
    unfold shM at E2
    by_cases q : wS (u.2 4) k (u.2 10 a ||| u.2 10 b) = 0
    · rw [if_pos q] at E1 E2
      exact ⟨_, _, E1, E2, RA_0 R 2, by show (2 : Int32) = lwc [1, 5] 5; decide, fun q => by simp at q⟩
    · rw [if_neg q] at E1 E2
      exact ⟨_, _, E1, E2, RA_0 R 0, by show (0 : Int32) = lwc [1, 5] 0; decide, fun _ => rfl⟩
  · have E1 : fcJ_share u p1 p2 = some (1, (0 : Int32)) := by
      unfold fcJ_share
      rw [bi_s (two_c0 h), if_neg (by decide)]
    have E2 := share_m0 J (p1 := p1) (p2 := p2) (by rw [← RA_z R]; exact h)
    exact ⟨_, _, E1, E2, RA_0 R 1, by show (1 : Int32) = lwc [1, 5] 1; decide, fun q => by simp at q⟩
theorem lk_callAt (R : RA u w) (S : RS u) (I : IC g u) (J : IM g w) (p1 p2 : Int32) : ∃ rv rz, fcJ_callAt u p1 p2 = some rv ∧ fm_callAt w p1 p2 = some rz ∧ RA u rz.2 ∧ rz.2.1 0 = lwc [1] rv.1 ∧ (rv.1 = 0 → rv.2 = rz.1) := by
  have z := IC_s I
  have z0 : (0 : Int32).toInt = 0 := by decide
  have z4 : (4 : Int32).toInt = 4 := by decide
  have z5 : (5 : Int32).toInt = 5 := by decide
  by_cases h : (0 ≤ p1.toInt ∧ p1.toInt < (u.1 0).toInt) ∧ 0 ≤ p2.toInt ∧ p2.toInt < 5
  · obtain ⟨h1, h2⟩ := h
    obtain ⟨a, ha, ha2, ha3⟩ := nat_of h1
    have a120 : a < 120 := by omega
    obtain ⟨q7, q8, q9, q10, q12, q13, q14, q15, q16⟩ := R.2.2.2.1 a ha2
    have E1a : fcJ_callAt u p1 p2 = fcJ_callAt_27 u p1 p2 (1 : Int32) := by
      unfold fcJ_callAt
      rw [bi_s (isb1 h1), if_neg (by decide), bi_s (isb1 (by omega)), if_neg (by decide)]
    have E2a : fm_callAt w p1 p2 = fm_callAt_23 w p1 p2 (0 : Int32) := by
      unfold fm_callAt
      rw [bi_s (isc1 J (by rw [← RA_z R]; exact h1)), if_neg (by decide), bi_s (fm_in_1 (by omega)), if_pos (by decide)]
    have E1b : fcJ_callAt u p1 p2 = some (0, if p2 = 0 then u.2 13 a else if p2 = 1 then u.2 14 a else if p2 = 2 then u.2 16 a else if p2 = 3 then u.2 8 a else u.2 15 a) := by
      rw [E1a]
      unfold fcJ_callAt_27
      rw [bi_s nk1, if_pos rfl, ha, ck_nI (n := 121) (by omega) (by decide), ck_nI (n := 121) (by omega) (by decide), ck_nI (n := 121) (by omega) (by decide), ck_nI (n := 121) (by omega) (by decide), ck_nI (n := 121) (by omega) (by decide), n31 (by omega)]
      by_cases c0 : p2 = 0
      · rw [if_pos c0, if_pos c0]
      · rw [if_neg c0, if_neg c0]
        by_cases c1 : p2 = 1
        · rw [if_pos c1, if_pos c1]
        · rw [if_neg c1, if_neg c1]
          by_cases c2 : p2 = 2
          · rw [if_pos c2, if_pos c2]
          · rw [if_neg c2, if_neg c2]
            by_cases c3 : p2 = 3
            · rw [if_pos c3, if_pos c3]
            · rw [if_neg c3, if_neg c3]
    have E2b : fm_callAt w p1 p2 = some ((if p2 = 0 then u.2 13 a else if p2 = 1 then u.2 14 a else if p2 = 2 then u.2 16 a else if p2 = 3 then u.2 8 a else u.2 15 a), g_sI w 0 0) := by
      rw [E2a]
      unfold fm_callAt_23
      rw [bi_s (fm_thr_0 w)]
      dsimp only
      rw [if_pos rfl, ha, ck_nI (n := 120) a120 (by decide), ck_nI (n := 120) a120 (by decide), ck_nI (n := 120) a120 (by decide), ck_nI (n := 120) a120 (by decide), ck_nI (n := 120) a120 (by decide), n31 (by omega), q13, q14, q16, q8, q15]
      by_cases c0 : p2 = 0
      · rw [if_neg (fun y => y c0), if_pos c0]; rfl
      · rw [if_pos c0, if_neg c0]
        by_cases c1 : p2 = 1
        · rw [if_neg (fun y => y c1), if_pos c1]; rfl
        · rw [if_pos c1, if_neg c1]
          by_cases c2 : p2 = 2
          · rw [if_neg (fun y => y c2), if_pos c2]; rfl
          · rw [if_pos c2, if_neg c2]
            by_cases c3 : p2 = 3
            · rw [if_neg (fun y => y c3), if_pos c3]; rfl
            · rw [if_pos c3, if_neg c3]; rfl
    exact ⟨_, _, E1b, E2b, RA_0 R 0, by show (0 : Int32) = lwc [1] 0; decide, fun _ => rfl⟩
  · have h27 : fcJ_callAt_27 u p1 p2 (0 : Int32) = some (1, (0 : Int32)) := by
      unfold fcJ_callAt_27
      rw [bi_s nk0, if_neg (by decide)]
    have h23 : fm_callAt_23 w p1 p2 (1 : Int32) = some ((0 : Int32), g_sI w 0 1) := by
      unfold fm_callAt_23
      rw [bi_s (fm_thr_1 w 0 0)]
      dsimp only
      rw [if_neg (by decide)]
    have E1 : fcJ_callAt u p1 p2 = some (1, (0 : Int32)) := by
      unfold fcJ_callAt
      by_cases h1 : 0 ≤ p1.toInt ∧ p1.toInt < (u.1 0).toInt
      · rw [bi_s (isb1 h1), if_neg (by decide), bi_s (isb0 (by omega)), if_pos rfl]; exact h27
      · rw [bi_s (isb0 h1), if_pos rfl]; exact h27
    have E2 : fm_callAt w p1 p2 = some ((0 : Int32), g_sI w 0 1) := by
      unfold fm_callAt
      by_cases h1 : 0 ≤ p1.toInt ∧ p1.toInt < (u.1 0).toInt
      · rw [bi_s (isc1 J (by rw [← RA_z R]; exact h1)), if_neg (by decide), bi_s (fm_in_0 (by omega)), if_neg (fun q => q rfl)]; exact h23
      · rw [bi_s (isc0 J (by rw [← RA_z R]; exact h1)), if_pos rfl]; exact h23
    exact ⟨_, _, E1, E2, RA_0 R 1, by show (1 : Int32) = lwc [1] 1; decide, fun q => by simp at q⟩
theorem mu_mono (f : Nat → Int32) (e : Int32) : ∀ {n m : Nat}, n ≤ m → mu_ f e n ≤ mu_ f e m := by
  intro n m h
  induction m with
  | zero => obtain rfl : n = 0 := by omega
            exact Nat.le_refl _
  | succ m ih =>
    rcases Nat.lt_or_ge n (m + 1) with q | q
    · have := ih (by omega)
      rw [mu_s]; omega
    · obtain rfl : n = m + 1 := by omega
      exact Nat.le_refl _
theorem mem_eq {e : Int32} {N t : Nat} (hN : u.1 0 = nI N) (hNw : w.1 1 = nI N) (hN2 : N ≤ 120) (hf : ∀ j, j < N → w.2 12 j = u.2 13 j) (ht : t < mu_ (u.2 13) e N) : ∀ (j m i : Nat), i + j = N → j < m → mu_ (u.2 13) e i ≤ t → ∃ c : Nat, c < N ∧ fcA_memberOf_5 u m e (nI t) (nI (mu_ (u.2 13) e i)) (nI i) = some (nI c) ∧ fm_member_55 m w e (nI (t - mu_ (u.2 13) e i)) (nI i) = some (nI c, w) := by
  intro j
  induction j with
  | zero =>
    intro m i hi hm hc
    obtain rfl : i = N := by omega
    exfalso; omega
  | succ j ih =>
    intro m i hi hm hc
    obtain ⟨m, rfl⟩ : ∃ m', m = m' + 1 := ⟨m - 1, by omega⟩
    have hml := mu_le (u.2 13) e i
    have hmN := mu_le (u.2 13) e N
    have hst := mu_s (u.2 13) e i
    rw [fcA_memberOf_5_s, fm_member_55_s, hN, hNw, if_neg (nI_ge (by omega) (by omega)), if_neg (nI_ge (by omega) (by omega)), ck_nI (n := 121) (by omega) (by decide), ck_nI (n := 120) (by omega) (by decide), n31 (by omega), hf i (by omega), nI_1]
    by_cases q : u.2 13 i = e
    · rw [if_pos q] at hst
      have q' : ¬ ¬ u.2 13 i = e := fun y => y q
      rw [if_neg q', if_neg q']
      by_cases q2 : mu_ (u.2 13) e i = t
      · have s1 : ¬ ¬ nI (mu_ (u.2 13) e i) = nI t := fun y => y (by rw [q2])
        have s2 : ¬ ¬ nI (t - mu_ (u.2 13) e i) = 0 := fun y => y (by rw [q2, Nat.sub_self]; rfl)
        rw [if_neg s1, if_neg s2]
        exact ⟨i, by omega, rfl, rfl⟩
      · have s1 : ¬ nI (mu_ (u.2 13) e i) = nI t := fun y => q2 ((nI_eq (by omega) (by omega)).mp y)
        have s2 : ¬ nI (t - mu_ (u.2 13) e i) = 0 := fun y => by
          have := (nI_eq (a := t - mu_ (u.2 13) e i) (b := 0) (by omega) (by omega)).mp y
          omega
        obtain ⟨c, h1, h2, h3⟩ := ih m (i + 1) (by omega) (by omega) (by omega)
        refine ⟨c, h1, ?_, ?_⟩
        · rw [if_pos s1, nI_1, ← hst]
          exact h2
        · rw [if_pos s2, ck_nI (n := 120) (by omega) (by decide), if_neg q', gl_r]
          have e1 : nI (t - mu_ (u.2 13) e i) - (1 : Int32) = nI (t - mu_ (u.2 13) e (i + 1)) := by
            rw [show t - mu_ (u.2 13) e i = (t - mu_ (u.2 13) e (i + 1)) + 1 by omega, nI_pred]
          rw [e1]; exact h3
    · rw [if_neg q] at hst
      rw [if_pos q, if_pos q, ck_nI (n := 120) (by omega) (by decide), if_pos q, gl_r, Int32.sub_zero]
      obtain ⟨c, h1, h2, h3⟩ := ih m (i + 1) (by omega) (by omega) (by omega)
      rw [hst] at h2 h3
      exact ⟨c, h1, h2, h3⟩
theorem mem_no {e p2 : Int32} {N : Nat} (hN : u.1 0 = nI N) (hN2 : N ≤ 120) (hp : ¬ (0 ≤ p2.toInt ∧ p2.toInt < mu_ (u.2 13) e N)) : ∀ (j m i : Nat), i + j = N → j < m → fcA_memberOf_5 u m e p2 (nI (mu_ (u.2 13) e i)) (nI i) = some (-1 : Int32) := by
  intro j
  induction j with
  | zero =>
    intro m i hi hm
    obtain ⟨m, rfl⟩ : ∃ m', m = m' + 1 := ⟨m - 1, by omega⟩
    obtain rfl : i = N := by omega
    rw [fcA_memberOf_5_s, hN, if_pos (nI_le (Nat.le_refl _) (by omega))]
  | succ j ih =>
    intro m i hi hm
    obtain ⟨m, rfl⟩ : ∃ m', m = m' + 1 := ⟨m - 1, by omega⟩
    have hml := mu_le (u.2 13) e i
    have hst := mu_s (u.2 13) e i
    have hmo := mu_mono (u.2 13) e (show i + 1 ≤ N by omega)
    have h1 := ih m (i + 1) (by omega) (by omega)
    rw [fcA_memberOf_5_s, hN, if_neg (nI_ge (by omega) (by omega)), ck_nI (n := 121) (by omega) (by decide), n31 (by omega), nI_1, nI_1]
    by_cases q : u.2 13 i = e
    · rw [if_pos q] at hst
      rw [if_neg (fun y => y q), if_pos (fun y => hp (by rw [← y, nI_toInt (by omega)]; omega)), ← hst]
      exact h1
    · rw [if_neg q] at hst
      rw [if_pos q]
      rw [hst] at h1
      exact h1
theorem lk_member (R : RA u w) (S : RS u) (I : IC g u) (J : IM g w) (p1 p2 : Int32) : ∃ rv rz, fcJ_member u p1 p2 = some rv ∧ fm_member w p1 p2 = some rz ∧ RA u rz.2 ∧ rz.2.1 0 = lwc [1, 2] rv.1 ∧ (rv.1 = 0 → rv.2 = rz.1) := by
  have z := IC_s I
  have z0 : (0 : Int32).toInt = 0 := by decide
  obtain ⟨N, hN, hN2, -⟩ := nat_of (p := u.1 0) (n := 121) (by omega)
  have hNw : w.1 1 = nI N := by rw [← RA_z R]; exact hN
  have hNi : (u.1 0).toInt = N := by rw [hN, nI_toInt (by omega)]
  have hf : ∀ j, j < N → w.2 12 j = u.2 13 j := fun j hj => ((R.2.2.2.1 j (by omega)).2.2.2.2.2.1).symm
  have hsz : fm_size w p1 = some (nI (mu_ (u.2 13) p1 N)) := by
    rw [cntm_e p1 hNw (by omega), mu_ext (u.2 13) (w.2 12) p1 N hf]
  have hmN := mu_le (u.2 13) p1 N
  by_cases h1 : 0 ≤ p1.toInt ∧ p1.toInt < (u.1 1).toInt
  · have k1 : (0 ≤ p1.toInt ∧ p1.toInt < (w.1 2).toInt) := by rw [← RA_e R]; exact h1
    have ts : (nI (mu_ (u.2 13) p1 N) - (1 : Int32)).toInt = (mu_ (u.2 13) p1 N : Int) - 1 := oi_sub (nI_toInt (by omega)) (by decide) (by omega) (by omega)
    have E1a : ∀ r : Int32, fcA_memberOf u p1 p2 = some r → fcJ_member u p1 p2 = if r = -1 then some (2, (0 : Int32)) else some (0, r) := fun r hr => by
      unfold fcJ_member
      rw [bi_s (isb1 h1), bi_s nk1, if_pos rfl, bi_s hr, bi_s ng0, bi_s ng1, if_neg (by decide : ¬ (2 : Nat) = 0), if_pos (rfl : (0 : Nat) = 0)]
    by_cases h2 : 0 ≤ p2.toInt ∧ p2.toInt < (mu_ (u.2 13) p1 N : Int)
    · obtain ⟨t, ht, ht2, -⟩ := nat_of h2
      obtain ⟨c, hc, e1, e2⟩ := mem_eq (w := g_sI w 0 0) (e := p1) (N := N) (t := t) hN hNw (by omega) hf (by omega) N 200 0 (by omega) (by omega) (Nat.zero_le _)
      have E1 := E1a (nI c) (by rw [ht]; exact e1)
      rw [if_neg (nI_m1 (by omega))] at E1
      have E2 : fm_member w p1 p2 = some (nI c, g_sI w 0 0) := by
        unfold fm_member
        rw [bi_s (ise1 J k1), if_pos (by decide)]
        unfold fm_member_16
        rw [if_neg (by decide), bi_s hsz, bi_s (fm_in_1 (by omega)), if_pos (by decide)]
        unfold fm_member_40
        rw [bi_s (fm_thr_0 w)]
        dsimp only
        rw [if_pos rfl, ht]
        exact e2
      exact ⟨_, _, E1, E2, RA_0 R 0, by show (0 : Int32) = lwc [1, 2] 0; decide, fun _ => rfl⟩
    · have E1 := E1a (-1) (mem_no hN (by omega) h2 N 200 0 (by omega) (by omega))
      rw [if_pos rfl] at E1
      have E2 : fm_member w p1 p2 = some ((0 : Int32), g_sI w 0 2) := by
        unfold fm_member
        rw [bi_s (ise1 J k1), if_pos (by decide)]
        unfold fm_member_16
        rw [if_neg (by decide), bi_s hsz, bi_s (fm_in_0 (by omega)), if_neg (fun q => q rfl)]
        unfold fm_member_40
        rw [bi_s (fm_thr_2 w 0)]
        dsimp only
        rw [if_neg (by decide)]
      exact ⟨_, _, E1, E2, RA_0 R 2, by show (2 : Int32) = lwc [1, 2] 2; decide, fun q => by simp at q⟩
  · have E1 : fcJ_member u p1 p2 = some (1, (0 : Int32)) := by
      unfold fcJ_member
      rw [bi_s (isb0 h1), bi_s nk0, if_neg (by decide)]
    have E2 : fm_member w p1 p2 = some ((0 : Int32), g_sI w 0 1) := by
      unfold fm_member
      rw [bi_s (ise0 J (by rw [← RA_e R]; exact h1)), if_neg (fun q => q rfl)]
      unfold fm_member_16
      rw [if_pos rfl]
      unfold fm_member_40
      rw [bi_s (fm_thr_1 w 0 0)]
      dsimp only
      rw [if_neg (by decide)]
    exact ⟨_, _, E1, E2, RA_0 R 1, by show (1 : Int32) = lwc [1, 2] 1; decide, fun q => by simp at q⟩
theorem open_eq (R : RA u w) (I : IC g u) : ∀ (n i : Nat) (s : Int32), i ≤ 60 → fm_count_50 n w (2 : Int32) s (nI i) = (fcE_countOpen_4 u n s (nI i)).bind fun r => some (r, w) := by
  have z := IC_s I
  intro n
  induction n with
  | zero => intro i s _; rfl
  | succ n ih =>
    intro i s hi
    rw [fm_count_50_s, fcE_countOpen_4_s, RA_e R]
    by_cases h : w.1 2 ≤ nI i
    · rw [if_pos h, if_pos h]
      show fm_count_88 (199 + 1) w (2 : Int32) s (0 : Int32) = some (s, w)
      rw [fm_count_88_s]
      by_cases q : w.1 1 ≤ (0 : Int32)
      · rw [if_pos q]
      · rw [if_neg q, if_pos (by decide)]
    · have hie : (i : Int) < (u.1 1).toInt := by
        have e := mt Int32.le_iff_toInt_le.mpr h
        rw [nI_toInt (by omega), ← RA_e R] at e
        omega
      rw [if_neg h, if_neg h, if_neg (fun y => y rfl), ck_nI (n := 60) (by omega) (by decide), ck_nI (n := 60) (by omega) (by decide), n31 (by omega), ← (R.2.2.2.2 i hie).1, nI_1]
      by_cases q : u.2 17 i = 0
      · rw [if_neg (fun y => y q), if_neg (fun y => y q)]
        exact ih (i + 1) _ (by omega)
      · rw [if_pos q, if_pos q, gl_r, Int32.add_zero]
        exact ih (i + 1) _ (by omega)
theorem hoax_eq (R : RA u w) (I : IC g u) : ∀ (n i : Nat) (s : Int32), i ≤ 120 → fm_count_88 n w (3 : Int32) s (nI i) = (fcA_countHoaxes_4 u n s (nI i)).bind fun r => some (r, w) := by
  have z := IC_s I
  intro n
  induction n with
  | zero => intro i s _; rfl
  | succ n ih =>
    intro i s hi
    rw [fm_count_88_s, fcA_countHoaxes_4_s, RA_z R]
    by_cases h : w.1 1 ≤ nI i
    · rw [if_pos h, if_pos h]; rfl
    · obtain ⟨hic, hi20⟩ := ilt I R hi h
      rw [if_neg h, if_neg h, if_neg (fun y => y rfl), bi_s (hx_m hi20), bi_s (hx_c (by omega)), ← (R.2.2.2.1 i hic).2.2.2.2.2.2.2.2, nI_1]
      by_cases q : hxV (u.2 16 i) = 0
      · rw [if_pos q, if_pos q, gl_r, Int32.add_zero]
        exact ih (i + 1) _ (by omega)
      · rw [if_neg q, if_neg q]
        exact ih (i + 1) _ (by omega)
theorem lk_count (R : RA u w) (S : RS u) (I : IC g u) (J : IM g w) (p1 : Int32) : ∃ rv rz, fcJ_count u p1 = some rv ∧ fm_count w p1 = some rz ∧ RA u rz.2 ∧ rz.2.1 0 = lwc [1] rv.1 ∧ (rv.1 = 0 → rv.2 = rz.1) := by
  have z := IC_s I
  have z0 : (0 : Int32).toInt = 0 := by decide
  have z1 : (1 : Int32).toInt = 1 := by decide
  have z2 : (2 : Int32).toInt = 2 := by decide
  have z3 : (3 : Int32).toInt = 3 := by decide
  have z4 : (4 : Int32).toInt = 4 := by decide
  have R0 : RA u (g_sI w 0 0) := RA_0 R 0
  by_cases h : 0 ≤ p1.toInt ∧ p1.toInt < 4
  · have E1a : fcJ_count u p1 = if p1 = (0 : Int32) then (some (0, (u.1 0))) else if p1 = (1 : Int32) then (some (0, (u.1 1))) else if p1 = (2 : Int32) then ((fcE_countOpen u).bind fun v3 => some (0, v3)) else (fcA_countHoaxes u).bind fun v4 => some (0, v4) := by
      unfold fcJ_count
      rw [bi_s (isb1 (by omega)), bi_s nk1, if_pos rfl]
    have E2a : fm_count w p1 = if (2 : Int32) ≤ p1 then (fm_count_50 200 (g_sI w 0 0) p1 (0 : Int32) (0 : Int32)) else if ¬ p1 = 0 then (some (((g_sI w 0 0).1 2), (g_sI w 0 0))) else some (((g_sI w 0 0).1 1), (g_sI w 0 0)) := by
      unfold fm_count
      rw [bi_s (fm_in_1 (by omega)), if_pos (by decide)]
      unfold fm_count_15
      rw [bi_s (fm_thr_0 w)]
      dsimp only
      rw [if_pos rfl]
    by_cases c0 : p1 = 0
    · rw [if_pos c0] at E1a
      rw [if_neg (fun y => by rw [c0] at y; exact absurd y (by decide)), if_neg (fun y => y c0)] at E2a
      exact ⟨_, _, E1a, E2a, R0, by show (0 : Int32) = lwc [1] 0; decide, fun _ => RA_z R⟩
    · rw [if_neg c0] at E1a
      by_cases c1 : p1 = 1
      · rw [if_pos c1] at E1a
        rw [if_neg (fun y => by rw [c1] at y; exact absurd y (by decide)), if_pos c0] at E2a
        exact ⟨_, _, E1a, E2a, R0, by show (0 : Int32) = lwc [1] 0; decide, fun _ => RA_e R⟩
      · rw [if_neg c1] at E1a
        have g2 : (2 : Int32) ≤ p1 := Int32.le_iff_toInt_le.mpr (by
          have a0 : ¬ p1.toInt = 0 := fun q => c0 (Int32.toInt_inj.mp (by omega))
          have a1 : ¬ p1.toInt = 1 := fun q => c1 (Int32.toInt_inj.mp (by omega))
          omega)
        rw [if_pos g2] at E2a
        by_cases c2 : p1 = 2
        · rw [if_pos c2] at E1a
          obtain ⟨v, hv, -⟩ := okk_fcE_countOpen I
          rw [bi_s hv] at E1a
          have e := open_eq R0 I 200 0 0 (by omega)
          have hv' : fcE_countOpen_4 u 200 (0 : Int32) (nI 0) = some v := hv
          rw [bi_s hv'] at e
          rw [c2] at E2a
          have E2b := E2a.trans e
          rw [← c2] at E2b
          exact ⟨_, _, E1a, E2b, R0, by show (0 : Int32) = lwc [1] 0; decide, fun _ => rfl⟩
        · rw [if_neg c2] at E1a
          have c3 : p1 = 3 := Int32.toInt_inj.mp (by
            have a0 : ¬ p1.toInt = 0 := fun q => c0 (Int32.toInt_inj.mp (by omega))
            have a1 : ¬ p1.toInt = 1 := fun q => c1 (Int32.toInt_inj.mp (by omega))
            have a2 : ¬ p1.toInt = 2 := fun q => c2 (Int32.toInt_inj.mp (by omega))
            omega)
          obtain ⟨v, hv, -⟩ := okk_fcA_countHoaxes I
          rw [bi_s hv] at E1a
          have e := hoax_eq R0 I 200 0 0 (by omega)
          have hv' : fcA_countHoaxes_4 u 200 (0 : Int32) (nI 0) = some v := hv
          rw [bi_s hv'] at e
          have e5 : fm_count_50 200 (g_sI w 0 0) p1 (0 : Int32) (0 : Int32) = some (v, g_sI w 0 0) := by
            rw [c3]
            show fm_count_50 (199 + 1) (g_sI w 0 0) (3 : Int32) (0 : Int32) (0 : Int32) = _
            rw [fm_count_50_s]
            by_cases q : (g_sI w 0 0).1 2 ≤ (0 : Int32)
            · rw [if_pos q]; exact e
            · rw [if_neg q, if_pos (by decide)]; exact e
          exact ⟨_, _, E1a, E2a.trans e5, R0, by show (0 : Int32) = lwc [1] 0; decide, fun _ => rfl⟩
  · have E1 : fcJ_count u p1 = some (1, (0 : Int32)) := by
      unfold fcJ_count
      rw [bi_s (isb0 (by omega)), bi_s nk0, if_neg (by decide)]
    have E2 : fm_count w p1 = some ((0 : Int32), g_sI w 0 1) := by
      unfold fm_count
      rw [bi_s (fm_in_0 (by omega)), if_neg (fun q => q rfl)]
      unfold fm_count_15
      rw [bi_s (fm_thr_1 w 0 0)]
      dsimp only
      rw [if_neg (by decide)]
    exact ⟨_, _, E1, E2, RA_0 R 1, by show (1 : Int32) = lwc [1] 1; decide, fun q => by simp at q⟩
end RDK
end
section
section MGK
variable {g : Nat → Int32} {u w : g_S}
theorem RA_merge {u' w' : g_S} {e c : Nat} {N : Nat} (R : RA u w) (S : RS u) (hN : (u.1 0).toInt = N) (i0 : u'.1 0 = u.1 0) (i1 : u'.1 1 = u.1 1) (j0 : w'.1 1 = w.1 1) (j1 : w'.1 2 = w.1 2)
    (ha : ∀ k, (k < 13 ∨ k = 16 ∨ k = 18 ∨ 20 ≤ k) → u'.2 k = u.2 k) (hb : ∀ k, (k < 12 ∨ k = 14 ∨ 18 ≤ k) → w'.2 k = w.2 k)
    (c13 : ∀ d, d < N → u'.2 13 d = w'.2 12 d) (c14 : ∀ d, d < N → u'.2 14 d = w'.2 13 d) (c15 : ∀ d, d < N → u'.2 15 d = w'.2 15 d)
    (c17 : ∀ d : Nat, u'.2 17 d = if d = e then 3 else u.2 17 d) (m16 : ∀ d : Nat, w'.2 16 d = if d = e then 3 else w.2 16 d) (m17 : ∀ d : Nat, ¬ d = e → w'.2 17 d = w.2 17 d) : RA u' w' := by
  refine ⟨by rw [i0, j0]; exact R.1, by rw [i1, j1]; exact R.2.1, fun k hk => ?_, fun d hd => ?_, fun d hd => ?_⟩
  · rw [ha k (by omega), hb k (by omega)]; exact R.2.2.1 k hk
  · rw [i0] at hd
    have hdN : d < N := by omega
    obtain ⟨q7, q8, q9, q10, q12, -, -, -, q16⟩ := R.2.2.2.1 d hd
    refine ⟨?_, ?_, ?_, ?_, ?_, c13 d hdN, c14 d hdN, c15 d hdN, ?_⟩
    · rw [ha 7 (by omega), hb 7 (by omega)]; exact q7
    · rw [ha 8 (by omega), hb 8 (by omega)]; exact q8
    · rw [ha 9 (by omega), hb 9 (by omega)]; exact q9
    · rw [ha 10 (by omega), hb 10 (by omega)]; exact q10
    · rw [ha 12 (by omega), hb 11 (by omega)]; exact q12
    · rw [ha 16 (by omega), hb 14 (by omega)]; exact q16
  · rw [i1] at hd
    rw [c17 d, m16 d, ha 20 (by omega), ha 21 (by omega), ha 22 (by omega), hb 18 (by omega), hb 19 (by omega)]
    by_cases q : d = e
    · rw [if_pos q, if_pos q]
      exact ⟨rfl, fun y => absurd rfl y⟩
    · rw [if_neg q, if_neg q, m17 d q]
      exact R.2.2.2.2 d hd
theorem RS_merge {u' : g_S} {e c f t N : Nat} (S : RS u) (I : IC g u) (hN : (u.1 0).toInt = N) (hf : f < N) (hc : c < N) (het : ¬ e = t) (he : (e : Int) < (u.1 1).toInt) (ht : (t : Int) < (u.1 1).toInt) (h3e : ¬ u.2 17 e = 3) (h19 : u.2 19 e = nI f) (hct : u.2 13 c = nI t) (ht60 : t < 60) (he60 : e < 60) (hN2 : N ≤ 120)
    (i0 : u'.1 0 = u.1 0) (i1 : u'.1 1 = u.1 1) (ha : ∀ k, (k < 13 ∨ k = 18) → u'.2 k = u.2 k)
    (c13 : ∀ d, u'.2 13 d = if d < N ∧ u.2 13 d = nI e then nI t else u.2 13 d) (c14 : ∀ d, u'.2 14 d = if d = f then nI c else u.2 14 d)
    (c17 : ∀ d : Nat, u'.2 17 d = if d = e then 3 else u.2 17 d) (c19 : ∀ d : Nat, ¬ d = e → u'.2 19 d = u.2 19 d) : RS u' := by
  obtain ⟨s1, s2, s3, s4⟩ := S
  have nt : (nI t).toInt = t := nI_toInt (by omega)
  have ne : (nI e).toInt = e := nI_toInt (by omega)
  have nc : (nI c).toInt = c := nI_toInt (by omega)
  have nf : (nI f).toInt = f := nI_toInt (by omega)
  have nfc : (nI f).toNatClampNeg = f := n31 (by omega)
  have ncc : (nI c).toNatClampNeg = c := n31 (by omega)
  have hnte : ¬ nI t = nI e := fun q => by have : (nI t).toInt = (nI e).toInt := by rw [q]
                                           omega
  have c13l : ∀ d, d < N → u'.2 13 d = if u.2 13 d = nI e then nI t else u.2 13 d := fun d hd => by
    rw [c13 d]
    by_cases q : u.2 13 d = nI e
    · rw [if_pos ⟨hd, q⟩, if_pos q]
    · rw [if_neg (fun y => q y.2), if_neg q]
  obtain ⟨g1, g2, g3, g4, g5, g6⟩ := s4 e he h3e
  rw [h19, nfc] at g3 g4
  have hfe : u.2 13 f = nI e := Int32.toInt_inj.mp (by omega)
  refine ⟨by rw [ha 6 (by omega)]; exact s1, fun d hd => ?_, fun d hd hr => ?_, fun x hx h3 => ?_⟩
  · rw [i0] at hd ⊢
    rw [i1, ha 12 (by omega), ha 9 (by omega), c13l d (by omega), c14 d]
    obtain ⟨a1, a2, a3, a4, a5⟩ := s2 d hd
    refine ⟨a1, a2, a3, ?_, ?_⟩
    · by_cases q : u.2 13 d = nI e
      · rw [if_pos q]; omega
      · rw [if_neg q]; exact a4
    · by_cases q : d = f
      · rw [if_pos q]; omega
      · rw [if_neg q]; exact a5
  · rw [i0] at hd
    rw [c14 d] at hr ⊢
    by_cases q : d = f
    · rw [if_pos q, ncc, c13l c hc, if_neg (by rw [hct]; exact hnte), hct, q, c13l f hf, if_pos hfe]
    · rw [if_neg q] at hr ⊢
      have hcl : ((u.2 14 d).toNatClampNeg : Int) = (u.2 14 d).toInt := cl_I hr
      have := (s2 d hd).2.2.2.2
      rw [c13l _ (by omega), c13l d (by omega), s3 d hd hr]
  · rw [i1] at hx
    rw [c17 x] at h3
    by_cases q : x = e
    · rw [if_pos q] at h3; exact absurd rfl h3
    · rw [if_neg q] at h3
      obtain ⟨a1, a2, a3, a4, a5, a6⟩ := s4 x hx h3
      have hcl : ((u.2 19 x).toNatClampNeg : Int) = (u.2 19 x).toInt := cl_I a1
      have hxf : ¬ (u.2 19 x).toNatClampNeg = f := fun y => by rw [y] at a3; omega
      rw [c19 x q, ha 18 (by omega), ha 8 (by omega), i0, c13l _ (by omega), c14, if_neg hxf, if_neg (fun y => by rw [y] at a3; omega)]
      refine ⟨a1, a2, a3, a4, a5, fun d hd b1 b2 => ?_⟩
      rw [c14 d] at b2
      rw [c13l d (by omega)] at b1
      by_cases y : d = f
      · rw [if_pos y] at b2; omega
      · rw [if_neg y] at b2
        by_cases y2 : u.2 13 d = nI e
        · have := g6 d hd (by rw [y2]; exact ne) b2
          rw [h19, nf] at this
          omega
        · rw [if_neg y2] at b1
          exact a6 d hd b1 b2
end MGK
end
section
section MGL
variable {g : Nat → Int32} {u w : g_S}
theorem moveAll_e (e t : Int32) {N : Nat} (hN : u.1 0 = nI N) (hN2 : N ≤ 120) : fcA_moveAll u e t = some (pA u 13 (maF (u.2 13) e t N)) := by
  have h := all_c (u := u) e t hN hN2 N 200 0 (by omega) (by omega)
  rw [maF_0, pA_s, nI_0] at h
  unfold fcA_moveAll
  exact h
def mgC (u : g_S) (e c f : Nat) (t : Int32) (N : Nat) : g_S := g_sA (g_sA (pA (g_sA (g_sA u 14 (nI f) (nI c)) 15 (nI f) (5 : Int32)) 13 (maF (u.2 13) (nI e) t N)) 17 (nI e) (3 : Int32)) 19 (nI e) (-1 : Int32)
def mgM (w : g_S) (e c f : Nat) (t : Int32) (N : Nat) : g_S := g_sA (g_sA (pA (g_sA (g_sA w 13 (nI f) (nI c)) 15 (nI f) (5 : Int32)) 12 (maF (w.2 12) (nI e) t N)) 16 (nI e) (3 : Int32)) 17 (nI e) (-1 : Int32)
theorem mergec_go {e c f N : Nat} {t : Int32} (he : e < 60) (hf : f < 120) (hN : u.1 0 = nI N) (hN2 : N ≤ 120) (h19 : u.2 19 e = nI f) : fcJ_merge_80 u (nI e) (nI c) t (1 : Int32) = some (0, nI (mu_ (maF (u.2 13) (nI e) t N) t N), mgC u e c f t N) := by
  have Ee : ∀ {β : Type} (x : Option β), ck (nI e) 60 x = x := fun x => ck_nI he (by decide)
  have Ef : ∀ {β : Type} (x : Option β), ck (nI f) 121 x = x := fun x => ck_nI (by omega) (by decide)
  have u7 : (g_sA (g_sA u 14 (nI f) (nI c)) 15 (nI f) (5 : Int32)).2 13 = u.2 13 := by rw [eqf_w 15 _ _ 13 (by decide), eqf_w 14 _ _ 13 (by decide)]
  have hm := moveAll_e (u := g_sA (g_sA u 14 (nI f) (nI c)) 15 (nI f) (5 : Int32)) (nI e) t (N := N) hN hN2
  rw [u7] at hm
  have h13 : (mgC u e c f t N).2 13 = maF (u.2 13) (nI e) t N := by
    unfold mgC
    rw [eqf_w 19 _ _ 13 (by decide), eqf_w 17 _ _ 13 (by decide), pA_k]
  have hcn : fcA_countIn (mgC u e c f t N) t = some (nI (mu_ (maF (u.2 13) (nI e) t N) t N)) := by
    have := cnt_c (u := mgC u e c f t N) t (N := N) hN hN2 N 200 0 (by omega) (by omega)
    rw [h13] at this
    unfold fcA_countIn
    exact this
  unfold fcJ_merge_80
  rw [bi_s ns1, if_pos rfl, Ee, gl_r, n31 (by omega), h19, Ef, gl_r, Ef, gl_r, bi_s hm, Ee, gl_r, Ee, gl_r]
  exact bi_s hcn
theorem mergem_go {e c f N : Nat} (he : e < 60) (hf : f < 120) (hc : c < 120) (hN : w.1 1 = nI N) (hN2 : N ≤ 120) (hfi : fm_firstOf (g_sI w 0 0) (nI e) = some (nI f)) (hce : ¬ w.2 12 c = nI e) : fm_merge_80 w (nI e) (nI c) (0 : Int32) (0 : Int32) = some (nI (mu_ (maF (w.2 12) (nI e) (w.2 12 c) N) (w.2 12 c) N), mgM (g_sI w 0 0) e c f (w.2 12 c) N) := by
  have Ee : ∀ {β : Type} (x : Option β), ck (nI e) 60 x = x := fun x => ck_nI he (by decide)
  have Ef : ∀ {β : Type} (x : Option β), ck (nI f) 120 x = x := fun x => ck_nI hf (by decide)
  have u7 : (g_sA (g_sA (g_sI w 0 0) 13 (nI f) (nI c)) 15 (nI f) (5 : Int32)).2 12 = w.2 12 := by
    rw [eqf_w 15 _ _ 12 (by decide), eqf_w 13 _ _ 12 (by decide)]; rfl
  obtain ⟨m', hm0, hm⟩ := all_m (w := g_sA (g_sA (g_sI w 0 0) 13 (nI f) (nI c)) 15 (nI f) (5 : Int32)) (nI e) (c := c) (N := N) hc (by rw [u7]; exact hce) hN hN2 N 200 0 (by omega) (by omega)
  rw [maF_0, pA_s, nI_0, u7] at hm
  obtain ⟨m', rfl⟩ : ∃ k, m' = k + 1 := ⟨m' - 1, by omega⟩
  have hcc : maF (w.2 12) (nI e) (w.2 12 c) N c = w.2 12 c := by
    unfold maF
    rw [if_neg (fun y => hce y.2)]
  have h12 : (mgM (g_sI w 0 0) e c f (w.2 12 c) N).2 12 = maF (w.2 12) (nI e) (w.2 12 c) N := by
    unfold mgM
    rw [eqf_w 17 _ _ 12 (by decide), eqf_w 16 _ _ 12 (by decide), pA_k]; rfl
  have hsz : fm_size (mgM (g_sI w 0 0) e c f (w.2 12 c) N) (w.2 12 c) = some (nI (mu_ (maF (w.2 12) (nI e) (w.2 12 c) N) (w.2 12 c) N)) := by
    have := cntm_e (w := mgM (g_sI w 0 0) e c f (w.2 12 c) N) (w.2 12 c) (N := N) hN hN2
    rw [h12] at this
    exact this
  unfold fm_merge_80
  rw [bi_s (fm_thr_0 w)]
  dsimp only
  rw [if_pos rfl, bi_s hfi, Ef, gl_r, Ef, gl_r, hm, fm_merge_115_s, show (pA (g_sA (g_sA (g_sI w 0 0) 13 (nI f) (nI c)) 15 (nI f) (5 : Int32)) 12 (maF (w.2 12) (nI e) (w.2 12 c) N)).1 1 = nI N from hN, if_pos (nI_le (Nat.le_refl _) (by omega)), Ee, gl_r, Ee, gl_r, ck_nI hc (by decide), n31 (by omega)]
  have h12c : (mgM (g_sI w 0 0) e c f (w.2 12 c) N).2 12 c = w.2 12 c := by rw [h12, hcc]
  show ((fm_size (mgM (g_sI w 0 0) e c f (w.2 12 c) N) ((mgM (g_sI w 0 0) e c f (w.2 12 c) N).2 12 c)).bind fun v8 => some (v8, mgM (g_sI w 0 0) e c f (w.2 12 c) N)) = _
  rw [h12c]
  exact bi_s hsz
end MGL
end
section
section MGM
variable {g : Nat → Int32} {u w : g_S}
theorem lk_merge (R : RA u w) (S : RS u) (I : IC g u) (J : IM g w) (p1 p2 : Int32) : ∃ rv rz, fcJ_merge u p1 p2 = some rv ∧ fm_merge w p1 p2 = some rz ∧ RA rv.2.2 rz.2 ∧ RS rv.2.2 ∧ rz.2.1 0 = lwc [1, 3] rv.1 ∧ (rv.1 = 0 → rv.2.1 = rz.1) := by
  have z := IC_s I
  have z0 : (0 : Int32).toInt = 0 := by decide
  by_cases h : (0 ≤ p1.toInt ∧ p1.toInt < (u.1 1).toInt) ∧ (0 ≤ p2.toInt ∧ p2.toInt < (u.1 0).toInt)
  · obtain ⟨h1, h2⟩ := h
    obtain ⟨e, he, he2, -⟩ := nat_of h1
    obtain ⟨c, hc, hc2, -⟩ := nat_of h2
    have e60 : e < 60 := by omega
    have c120 : c < 120 := by omega
    have r13 := IC_r13 I c
    obtain ⟨t, ht, ht2, -⟩ := nat_of (p := u.2 13 c) (n := (u.1 1).toInt) ⟨by omega, (S.2.1 c hc2).2.2.2.1⟩
    have t60 : t < 60 := by omega
    have ct : (nI t).toNatClampNeg = t := n31 (by omega)
    have ce : (nI e).toNatClampNeg = e := n31 (by omega)
    have cc : (nI c).toNatClampNeg = c := n31 (by omega)
    have qc := (R.2.2.2.1 c hc2).2.2.2.2.2.1
    have we : w.2 16 e = u.2 17 e := ((R.2.2.2.2 e he2).1).symm
    have wt : w.2 16 t = u.2 17 t := ((R.2.2.2.2 t ht2).1).symm
    have w12 : w.2 12 c = nI t := by rw [← qc]; exact ht
    have E1a : fcJ_merge u p1 p2 = fcJ_merge_33 u (nI e) (nI c) (1 : Int32) := by
      unfold fcJ_merge
      rw [bi_s (isb1 h1), if_neg (by decide), bi_s (isb1 h2), if_neg (by decide), he, hc]
    have E2a : fm_merge w p1 p2 = fm_merge_21 w (nI e) (nI c) (1 : Int32) := by
      unfold fm_merge
      rw [bi_s (ise1 J (by rw [← RA_e R]; exact h1)), if_neg (by decide), bi_s (isc1 J (by rw [← RA_z R]; exact h2)), if_neg (by decide), he, hc]
    have Ee : ∀ {β : Type} (x : Option β), ck (nI e) 60 x = x := fun x => ck_nI e60 (by decide)
    have Et : ∀ {β : Type} (x : Option β), ck (nI t) 60 x = x := fun x => ck_nI t60 (by decide)
    have E1b : fcJ_merge_33 u (nI e) (nI c) (1 : Int32) = if ¬ u.2 17 e = 0 then fcJ_merge_80 u (nI e) (nI c) (nI t) (0 : Int32) else if ¬ u.2 17 t = 0 then fcJ_merge_80 u (nI e) (nI c) (nI t) (0 : Int32) else if nI e = nI t then fcJ_merge_80 u (nI e) (nI c) (nI t) (0 : Int32) else fcJ_merge_80 u (nI e) (nI c) (nI t) (1 : Int32) := by
      unfold fcJ_merge_33
      rw [bi_s nk1, if_pos rfl, ck_nI (n := 121) (by omega) (by decide), gl_r, cc, ht, Ee, Et, ce, ct]
    have E2b : fm_merge_21 w (nI e) (nI c) (1 : Int32) = if ¬ u.2 17 e = 0 then fm_merge_58 w (nI e) (nI c) (1 : Int32) (0 : Int32) else if opV (u.2 17 t) = 0 then fm_merge_58 w (nI e) (nI c) (1 : Int32) (0 : Int32) else if nI t = nI e then fm_merge_58 w (nI e) (nI c) (1 : Int32) (0 : Int32) else fm_merge_58 w (nI e) (nI c) (1 : Int32) (1 : Int32) := by
      have ho := op_m J c120
      rw [w12, ct, wt] at ho
      unfold fm_merge_21
      rw [if_neg (by decide), Ee, ce, we, bi_s ho, ck_nI c120 (by decide), cc, w12]
    have E10 : fcJ_merge_80 u (nI e) (nI c) (nI t) (0 : Int32) = some (3, (0 : Int32), u) := by
      unfold fcJ_merge_80
      rw [bi_s ns0, if_neg (by decide)]
    have E20 : fm_merge_58 w (nI e) (nI c) (1 : Int32) (0 : Int32) = some ((0 : Int32), g_sI w 0 2) := by
      unfold fm_merge_58
      rw [if_pos (by decide), if_neg (fun q => q rfl)]
      unfold fm_merge_80
      rw [bi_s (fm_thr_2 w 0)]
      dsimp only
      rw [if_neg (by decide)]
    have E21 : fm_merge_58 w (nI e) (nI c) (1 : Int32) (1 : Int32) = fm_merge_80 w (nI e) (nI c) (0 : Int32) (0 : Int32) := by
      unfold fm_merge_58
      rw [if_pos (by decide), if_pos (by decide)]
    have F3 : fcJ_merge u p1 p2 = some (3, (0 : Int32), u) → fm_merge w p1 p2 = some ((0 : Int32), g_sI w 0 2) → ∃ rv rz, fcJ_merge u p1 p2 = some rv ∧ fm_merge w p1 p2 = some rz ∧ RA rv.2.2 rz.2 ∧ RS rv.2.2 ∧ rz.2.1 0 = lwc [1, 3] rv.1 ∧ (rv.1 = 0 → rv.2.1 = rz.1) := fun a b => ⟨_, _, a, b, RA_0 R 2, S, by show (2 : Int32) = lwc [1, 3] 3; decide, fun q => by simp at q⟩
    by_cases a1 : u.2 17 e = 0
    · have a1' : ¬ ¬ u.2 17 e = 0 := fun q => q a1
      rw [if_neg a1'] at E1b E2b
      by_cases a2 : u.2 17 t = 0
      · have a2' : ¬ ¬ u.2 17 t = 0 := fun q => q a2
        have o2 : ¬ opV (u.2 17 t) = 0 := by unfold opV; rw [if_neg a2']; decide
        rw [if_neg a2'] at E1b
        rw [if_neg o2] at E2b
        by_cases a3 : nI e = nI t
        · rw [if_pos a3, E10] at E1b
          rw [if_pos a3.symm, E20] at E2b
          exact F3 (E1a.trans E1b) (E2a.trans E2b)
        · rw [if_neg a3] at E1b
          rw [if_neg (fun q => a3 q.symm), E21] at E2b
          have h3 : ¬ u.2 17 e = 3 := by rw [a1]; decide
          obtain ⟨N, hN, hN2, -⟩ := nat_of (p := u.1 0) (n := 121) (by omega)
          have hNi : (u.1 0).toInt = N := by rw [hN, nI_toInt (by omega)]
          have hNw : w.1 1 = nI N := by rw [← RA_z R]; exact hN
          obtain ⟨g1, g2, g3, g4, g5, g6⟩ := S.2.2.2 e he2 h3
          obtain ⟨f, hf, hf2, -⟩ := nat_of (p := u.2 19 e) (n := (u.1 0).toInt) ⟨g1, g2⟩
          have hfi : fm_firstOf (g_sI w 0 0) (nI e) = some (nI f) := by rw [first_m (RA_0 R 0) S I (IM_ix J _ (by decide)) he2 h3, hf]
          have hce : ¬ w.2 12 c = nI e := by rw [w12]; exact fun q => a3 q.symm
          have G1 := mergec_go (u := u) (e := e) (c := c) (f := f) (t := nI t) e60 (by omega) hN (by omega) hf
          have G2 := mergem_go (w := w) (e := e) (c := c) (f := f) e60 (by omega) c120 hNw (by omega) hfi hce
          rw [w12] at G2
          have hmu : mu_ (maF (w.2 12) (nI e) (nI t) N) (nI t) N = mu_ (maF (u.2 13) (nI e) (nI t) N) (nI t) N := mu_ext _ _ _ N (fun j hj => by
            unfold maF
            rw [(R.2.2.2.1 j (by omega)).2.2.2.2.2.1])
          rw [hmu] at G2
          have nf : (nI f).toNatClampNeg = f := n31 (by omega)
          have het : ¬ e = t := fun q => a3 (by rw [q])
          have k13 : (mgC u e c f (nI t) N).2 13 = maF (u.2 13) (nI e) (nI t) N := by
            unfold mgC
            rw [eqf_w 19 _ _ 13 (by decide), eqf_w 17 _ _ 13 (by decide), pA_k]
          have k14 : ∀ d, (mgC u e c f (nI t) N).2 14 d = if d = f then nI c else u.2 14 d := fun d => by
            unfold mgC
            rw [eqf_w 19 _ _ 14 (by decide), eqf_w 17 _ _ 14 (by decide), pA_o _ _ _ 14 (by decide), eqf_w 15 _ _ 14 (by decide), rdk, nf]
          have k15 : ∀ d, (mgC u e c f (nI t) N).2 15 d = if d = f then 5 else u.2 15 d := fun d => by
            unfold mgC
            rw [eqf_w 19 _ _ 15 (by decide), eqf_w 17 _ _ 15 (by decide), pA_o _ _ _ 15 (by decide), rdk, nf, eqf_w 14 _ _ 15 (by decide)]
          have k17 : ∀ d, (mgC u e c f (nI t) N).2 17 d = if d = e then 3 else u.2 17 d := fun d => by
            unfold mgC
            rw [eqf_w 19 _ _ 17 (by decide), rdk, ce, pA_o _ _ _ 17 (by decide), eqf_w 15 _ _ 17 (by decide), eqf_w 14 _ _ 17 (by decide)]
          have k19 : ∀ d, ¬ d = e → (mgC u e c f (nI t) N).2 19 d = u.2 19 d := fun d hd => by
            unfold mgC
            rw [rdk, ce, if_neg hd, eqf_w 17 _ _ 19 (by decide), pA_o _ _ _ 19 (by decide), eqf_w 15 _ _ 19 (by decide), eqf_w 14 _ _ 19 (by decide)]
          have ko : ∀ k, (k < 13 ∨ k = 16 ∨ k = 18 ∨ 20 ≤ k) → (mgC u e c f (nI t) N).2 k = u.2 k := fun k hk => by
            unfold mgC
            rw [eqf_w 19 _ _ k (by omega), eqf_w 17 _ _ k (by omega), pA_o _ _ _ k (by omega), eqf_w 15 _ _ k (by omega), eqf_w 14 _ _ k (by omega)]
          have m12 : (mgM (g_sI w 0 0) e c f (nI t) N).2 12 = maF (w.2 12) (nI e) (nI t) N := by
            unfold mgM
            rw [eqf_w 17 _ _ 12 (by decide), eqf_w 16 _ _ 12 (by decide), pA_k]; rfl
          have m13 : ∀ d, (mgM (g_sI w 0 0) e c f (nI t) N).2 13 d = if d = f then nI c else w.2 13 d := fun d => by
            unfold mgM
            rw [eqf_w 17 _ _ 13 (by decide), eqf_w 16 _ _ 13 (by decide), pA_o _ _ _ 13 (by decide), eqf_w 15 _ _ 13 (by decide), rdk, nf]; rfl
          have m15 : ∀ d, (mgM (g_sI w 0 0) e c f (nI t) N).2 15 d = if d = f then 5 else w.2 15 d := fun d => by
            unfold mgM
            rw [eqf_w 17 _ _ 15 (by decide), eqf_w 16 _ _ 15 (by decide), pA_o _ _ _ 15 (by decide), rdk, nf, eqf_w 13 _ _ 15 (by decide)]; rfl
          have m16 : ∀ d, (mgM (g_sI w 0 0) e c f (nI t) N).2 16 d = if d = e then 3 else w.2 16 d := fun d => by
            unfold mgM
            rw [eqf_w 17 _ _ 16 (by decide), rdk, ce, pA_o _ _ _ 16 (by decide), eqf_w 15 _ _ 16 (by decide), eqf_w 13 _ _ 16 (by decide)]; rfl
          have m17 : ∀ d, ¬ d = e → (mgM (g_sI w 0 0) e c f (nI t) N).2 17 d = w.2 17 d := fun d hd => by
            unfold mgM
            rw [rdk, ce, if_neg hd, eqf_w 16 _ _ 17 (by decide), pA_o _ _ _ 17 (by decide), eqf_w 15 _ _ 17 (by decide), eqf_w 13 _ _ 17 (by decide)]; rfl
          have mo : ∀ k, (k < 12 ∨ k = 14 ∨ 18 ≤ k) → (mgM (g_sI w 0 0) e c f (nI t) N).2 k = w.2 k := fun k hk => by
            unfold mgM
            rw [eqf_w 17 _ _ k (by omega), eqf_w 16 _ _ k (by omega), pA_o _ _ _ k (by omega), eqf_w 15 _ _ k (by omega), eqf_w 13 _ _ k (by omega)]; rfl
          have ra : RA (mgC u e c f (nI t) N) (mgM (g_sI w 0 0) e c f (nI t) N) := by
            refine RA_merge (e := e) (c := c) (N := N) R S hNi rfl rfl rfl rfl ko mo (fun d hd => ?_) (fun d hd => ?_) (fun d hd => ?_) k17 m16 m17
            · rw [k13, m12]
              unfold maF
              rw [(R.2.2.2.1 d (by omega)).2.2.2.2.2.1]
            · rw [k14, m13, (R.2.2.2.1 d (by omega)).2.2.2.2.2.2.1]
            · rw [k15, m15, (R.2.2.2.1 d (by omega)).2.2.2.2.2.2.2.1]
          have rs : RS (mgC u e c f (nI t) N) := RS_merge (e := e) (c := c) (f := f) (t := t) (N := N) S I hNi (by omega) (by omega) het he2 ht2 h3 hf ht t60 e60 (by omega) rfl rfl (fun k hk => ko k (by omega)) (fun d => by rw [k13]; rfl) k14 k17 k19
          exact ⟨_, _, E1a.trans (E1b.trans G1), E2a.trans (E2b.trans G2), ra, rs, by show (0 : Int32) = lwc [1, 3] 0; decide, fun _ => rfl⟩
      · have o2 : opV (u.2 17 t) = 0 := by unfold opV; rw [if_pos a2]
        rw [if_pos a2, E10] at E1b
        rw [if_pos o2, E20] at E2b
        exact F3 (E1a.trans E1b) (E2a.trans E2b)
    · rw [if_pos a1, E10] at E1b
      rw [if_pos a1, E20] at E2b
      exact F3 (E1a.trans E1b) (E2a.trans E2b)
  · have h33 : fcJ_merge_33 u p1 p2 (0 : Int32) = some (1, (0 : Int32), u) := by
      unfold fcJ_merge_33
      rw [bi_s nk0, if_neg (by decide)]
    have h21 : fm_merge_21 w p1 p2 (0 : Int32) = some ((0 : Int32), g_sI w 0 1) := by
      unfold fm_merge_21
      rw [if_pos rfl]
      unfold fm_merge_58
      rw [if_neg (fun q => q rfl), if_neg (fun q => q rfl)]
      unfold fm_merge_80
      rw [bi_s (fm_thr_1 w 1 0)]
      dsimp only
      rw [if_neg (by decide)]
    have E1 : fcJ_merge u p1 p2 = some (1, (0 : Int32), u) := by
      unfold fcJ_merge
      by_cases h1 : 0 ≤ p1.toInt ∧ p1.toInt < (u.1 1).toInt
      · rw [bi_s (isb1 h1), if_neg (by decide), bi_s (isb0 (fun q => h ⟨h1, q⟩)), if_pos rfl]; exact h33
      · rw [bi_s (isb0 h1), if_pos rfl]; exact h33
    have E2 : fm_merge w p1 p2 = some ((0 : Int32), g_sI w 0 1) := by
      unfold fm_merge
      by_cases h1 : 0 ≤ p1.toInt ∧ p1.toInt < (u.1 1).toInt
      · rw [bi_s (ise1 J (by rw [← RA_e R]; exact h1)), if_neg (by decide), bi_s (isc0 J (by rw [← RA_z R]; exact fun q => h ⟨h1, q⟩)), if_pos rfl]; exact h21
      · rw [bi_s (ise0 J (by rw [← RA_e R]; exact h1)), if_pos rfl]; exact h21
    exact ⟨_, _, E1, E2, RA_0 R 1, S, by show (1 : Int32) = lwc [1, 3] 1; decide, fun q => by simp at q⟩
end MGM
end
section
section SML
variable {g : Nat → Int32} {u w : g_S}
theorem lk_rule (R : RA u w) (S : RS u) (I : IC g u) (J : IM g w) (p1 p2 p3 p4 p5 : Int32) : ∃ rv rz, fcJ_rule u p1 p2 p3 p4 p5 = some rv ∧ fm_rule w p1 p2 p3 p4 p5 = some rz ∧ RA rv.2 rz ∧ RS rv.2 ∧ rz.1 0 = lwc [1, 2] rv.1 := by
  have ez : (u.1 0).toInt = (w.1 1).toInt := by rw [RA_z R]
  have ee : (u.1 1).toInt = (w.1 2).toInt := by rw [RA_e R]
  obtain ⟨rv, h1, q1, q2, q3, q4⟩ := okl_fcJ_rule I (p1 := p1) (p2 := p2) (p3 := p3) (p4 := p4) (p5 := p5)
  obtain ⟨rz, h2, s1, s2, s3, s4⟩ := okl_fm_rule J (p1 := p1) (p2 := p2) (p3 := p3) (p4 := p4) (p5 := p5)
  refine ⟨rv, rz, h1, h2, ?_⟩
  rcases q2 with a | a | a <;> rcases s2 with b | b | b <;> try (exfalso; omega)
  · obtain ⟨k, hk⟩ := s4 (by omega)
    refine ⟨by rw [q4 (by omega), hk]; exact RA_0 R k, by rw [q4 (by omega)]; exact S, by rw [a.1]; exact Int32.toInt_inj.mp (by rw [b.1]; decide)⟩
  · obtain ⟨k, hk⟩ := s4 (by omega)
    refine ⟨by rw [q4 (by omega), hk]; exact RA_0 R k, by rw [q4 (by omega)]; exact S, by rw [a.1]; exact Int32.toInt_inj.mp (by rw [b.1]; decide)⟩
  · refine ⟨by rw [q3 a.1, s3 b.1]; exact RA_ws (RA_ws (RA_ws (RA_ws (RA_0 R 0) 0 _ _ (by decide)) 1 _ _ (by decide)) 2 _ _ (by decide)) 3 _ _ (by decide), by rw [q3 a.1]; exact RS_w (RS_w (RS_w (RS_w S 0 _ _ (by decide)) 1 _ _ (by decide)) 2 _ _ (by decide)) 3 _ _ (by decide), by rw [a.1]; exact Int32.toInt_inj.mp (by rw [b.1]; decide)⟩
theorem lk_weight (R : RA u w) (S : RS u) (I : IC g u) (J : IM g w) (p1 p2 p3 : Int32) : ∃ rv rz, fcJ_weight u p1 p2 p3 = some rv ∧ fm_weight w p1 p2 p3 = some rz ∧ RA rv.2 rz ∧ RS rv.2 ∧ rz.1 0 = lwc [1, 2] rv.1 := by
  have ez : (u.1 0).toInt = (w.1 1).toInt := by rw [RA_z R]
  have ee : (u.1 1).toInt = (w.1 2).toInt := by rw [RA_e R]
  obtain ⟨rv, h1, q1, q2, q3, q4⟩ := okl_fcJ_weight I (p1 := p1) (p2 := p2) (p3 := p3)
  obtain ⟨rz, h2, s1, s2, s3, s4⟩ := okl_fm_weight J (p1 := p1) (p2 := p2) (p3 := p3)
  refine ⟨rv, rz, h1, h2, ?_⟩
  rcases q2 with a | a | a <;> rcases s2 with b | b | b <;> try (exfalso; omega)
  · obtain ⟨k, hk⟩ := s4 (by omega)
    refine ⟨by rw [q4 (by omega), hk]; exact RA_0 R k, by rw [q4 (by omega)]; exact S, by rw [a.1]; exact Int32.toInt_inj.mp (by rw [b.1]; decide)⟩
  · obtain ⟨k, hk⟩ := s4 (by omega)
    refine ⟨by rw [q4 (by omega), hk]; exact RA_0 R k, by rw [q4 (by omega)]; exact S, by rw [a.1]; exact Int32.toInt_inj.mp (by rw [b.1]; decide)⟩
  · refine ⟨by rw [q3 a.1, s3 b.1]; rw [Int32.mul_comm p1 32]; exact RA_ws (RA_0 R 0) 4 _ _ (by decide), by rw [q3 a.1]; exact RS_w S 4 _ _ (by decide), by rw [a.1]; exact Int32.toInt_inj.mp (by rw [b.1]; decide)⟩
theorem lk_mark (R : RA u w) (S : RS u) (I : IC g u) (J : IM g w) (p1 p2 : Int32) : ∃ rv rz, fcJ_mark u p1 p2 = some rv ∧ fm_mark w p1 p2 = some rz ∧ RA rv.2 rz ∧ RS rv.2 ∧ rz.1 0 = lwc [1, 2] rv.1 := by
  have ez : (u.1 0).toInt = (w.1 1).toInt := by rw [RA_z R]
  have ee : (u.1 1).toInt = (w.1 2).toInt := by rw [RA_e R]
  obtain ⟨rv, h1, q1, q2, q3, q4⟩ := okl_fcJ_mark I (p1 := p1) (p2 := p2)
  obtain ⟨rz, h2, s1, s2, s3, s4⟩ := okl_fm_mark J (p1 := p1) (p2 := p2)
  refine ⟨rv, rz, h1, h2, ?_⟩
  rcases q2 with a | a | a <;> rcases s2 with b | b | b <;> try (exfalso; omega)
  · obtain ⟨k, hk⟩ := s4 (by omega)
    refine ⟨by rw [q4 (by omega), hk]; exact RA_0 R k, by rw [q4 (by omega)]; exact S, by rw [a.1]; exact Int32.toInt_inj.mp (by rw [b.1]; decide)⟩
  · obtain ⟨k, hk⟩ := s4 (by omega)
    refine ⟨by rw [q4 (by omega), hk]; exact RA_0 R k, by rw [q4 (by omega)]; exact S, by rw [a.1]; exact Int32.toInt_inj.mp (by rw [b.1]; decide)⟩
  · refine ⟨by rw [q3 a.1, s3 b.1]; exact RA_mark (RA_0 R 0) _ _, by rw [q3 a.1]; exact RS_w S 16 _ _ (by decide), by rw [a.1]; exact Int32.toInt_inj.mp (by rw [b.1]; decide)⟩
theorem lk_watch (R : RA u w) (S : RS u) (I : IC g u) (J : IM g w) (p1 p2 p3 p4 : Int32) : ∃ rv rz, fcJ_watch u p1 p2 p3 p4 = some rv ∧ fm_watch w p1 p2 p3 p4 = some rz ∧ RA rv.2 rz ∧ RS rv.2 ∧ rz.1 0 = lwc [1, 2, 3] rv.1 := by
  have ez : (u.1 0).toInt = (w.1 1).toInt := by rw [RA_z R]
  have ee : (u.1 1).toInt = (w.1 2).toInt := by rw [RA_e R]
  have e17 : 0 ≤ p1.toInt ∧ p1.toInt < (u.1 1).toInt → (u.2 17 p1.toNatClampNeg).toInt = (w.2 16 p1.toNatClampNeg).toInt := fun h => by
    have hc : (p1.toNatClampNeg : Int) = p1.toInt := cl_I h.1
    rw [(R.2.2.2.2 p1.toNatClampNeg (by omega)).1]
  obtain ⟨rv, h1, q1, q2, q3, q4⟩ := okl_fcJ_watch I (p1 := p1) (p2 := p2) (p3 := p3) (p4 := p4)
  obtain ⟨rz, h2, s1, s2, s3, s4⟩ := okl_fm_watch J (p1 := p1) (p2 := p2) (p3 := p3) (p4 := p4)
  rw [← RA_k R 5 (by decide)] at s2
  refine ⟨rv, rz, h1, h2, ?_⟩
  rcases q2 with a | a | a | a <;> rcases s2 with b | b | b | b <;> try (exfalso; omega)
  · obtain ⟨k, hk⟩ := s4 (by omega)
    refine ⟨by rw [q4 (by omega), hk]; exact RA_0 R k, by rw [q4 (by omega)]; exact S, by rw [a.1]; exact Int32.toInt_inj.mp (by rw [b.1]; decide)⟩
  · obtain ⟨k, hk⟩ := s4 (by omega)
    refine ⟨by rw [q4 (by omega), hk]; exact RA_0 R k, by rw [q4 (by omega)]; exact S, by rw [a.1]; exact Int32.toInt_inj.mp (by rw [b.1]; decide)⟩
  · obtain ⟨k, hk⟩ := s4 (by omega)
    refine ⟨by rw [q4 (by omega), hk]; exact RA_0 R k, by rw [q4 (by omega)]; exact S, by rw [a.1]; exact Int32.toInt_inj.mp (by rw [b.1]; decide)⟩
  · refine ⟨by rw [q3 a.1, s3 b.1]; exact RA_watch (RA_0 R 0) _ _ _ _ (by omega), by rw [q3 a.1]; exact RS_w (RS_w (RS_w S 20 _ _ (by decide)) 21 _ _ (by decide)) 22 _ _ (by decide), by rw [a.1]; exact Int32.toInt_inj.mp (by rw [b.1]; decide)⟩
theorem lk_state (R : RA u w) (S : RS u) (I : IC g u) (J : IM g w) (p1 p2 : Int32) : ∃ rv rz, fcJ_state u p1 p2 = some rv ∧ fm_state w p1 p2 = some rz ∧ RA rv.2 rz ∧ RS rv.2 ∧ rz.1 0 = lwc [1, 2, 3] rv.1 := by
  have ez : (u.1 0).toInt = (w.1 1).toInt := by rw [RA_z R]
  have ee : (u.1 1).toInt = (w.1 2).toInt := by rw [RA_e R]
  have e17 : 0 ≤ p1.toInt ∧ p1.toInt < (u.1 1).toInt → (u.2 17 p1.toNatClampNeg).toInt = (w.2 16 p1.toNatClampNeg).toInt := fun h => by
    have hc : (p1.toNatClampNeg : Int) = p1.toInt := cl_I h.1
    rw [(R.2.2.2.2 p1.toNatClampNeg (by omega)).1]
  obtain ⟨rv, h1, q1, q2, q3, q4⟩ := okl_fcJ_state I (p1 := p1) (p2 := p2)
  obtain ⟨rz, h2, s1, s2, s3, s4⟩ := okl_fm_state J (p1 := p1) (p2 := p2)
  refine ⟨rv, rz, h1, h2, ?_⟩
  rcases q2 with a | a | a | a <;> rcases s2 with b | b | b | b <;> try (exfalso; omega)
  · obtain ⟨k, hk⟩ := s4 (by omega)
    refine ⟨by rw [q4 (by omega), hk]; exact RA_0 R k, by rw [q4 (by omega)]; exact S, by rw [a.1]; exact Int32.toInt_inj.mp (by rw [b.1]; decide)⟩
  · obtain ⟨k, hk⟩ := s4 (by omega)
    refine ⟨by rw [q4 (by omega), hk]; exact RA_0 R k, by rw [q4 (by omega)]; exact S, by rw [a.1]; exact Int32.toInt_inj.mp (by rw [b.1]; decide)⟩
  · obtain ⟨k, hk⟩ := s4 (by omega)
    refine ⟨by rw [q4 (by omega), hk]; exact RA_0 R k, by rw [q4 (by omega)]; exact S, by rw [a.1]; exact Int32.toInt_inj.mp (by rw [b.1]; decide)⟩
  · refine ⟨by rw [q3 a.1, s3 b.1]; exact RA_state (RA_0 R 0) _ _ (fun y => absurd (show (u.2 17 p1.toNatClampNeg).toInt = 3 by rw [y]; decide) (by omega)), by rw [q3 a.1]; exact RS_state S _ _ (fun y => absurd (show (u.2 17 p1.toNatClampNeg).toInt = 3 by rw [y]; decide) (by omega)), by rw [a.1]; exact Int32.toInt_inj.mp (by rw [b.1]; decide)⟩
end SML
end
section
section PTK
variable {g : Nat → Int32} {u w : g_S}
theorem RS_w6 (S : RS u) (i v : Int32) (h : 0 ≤ v.toInt ∧ v.toInt ≤ 99999999) : RS (g_sA u 6 i v) := by
  obtain ⟨s1, s2, s3, s4⟩ := S
  refine ⟨fun j => ?_, ?_, ?_, ?_⟩
  · rw [rdk]
    by_cases y : j = i.toNatClampNeg
    · rw [if_pos y]; exact h
    · rw [if_neg y]; exact s1 j
  · rw [eqf_w 6 i v 12 (by decide), eqf_w 6 i v 9 (by decide), eqf_w 6 i v 13 (by decide), eqf_w 6 i v 14 (by decide)]; exact s2
  · rw [eqf_w 6 i v 14 (by decide), eqf_w 6 i v 13 (by decide)]; exact s3
  · rw [eqf_w 6 i v 17 (by decide), eqf_w 6 i v 19 (by decide), eqf_w 6 i v 13 (by decide), eqf_w 6 i v 14 (by decide), eqf_w 6 i v 18 (by decide), eqf_w 6 i v 8 (by decide)]; exact s4
theorem isr1 {p : Int32} (h : 0 ≤ p.toInt ∧ p.toInt ≤ 7) : fm_isRoad p = some (1 : Int32) := by
  have z0 : (0 : Int32).toInt = 0 := by decide
  have z7 : (7 : Int32).toInt = 7 := by decide
  unfold fm_isRoad
  rw [fm_in_1 (by omega)]; rfl
theorem isr0 {p : Int32} (h : ¬ (0 ≤ p.toInt ∧ p.toInt ≤ 7)) : fm_isRoad p = some (0 : Int32) := by
  have z0 : (0 : Int32).toInt = 0 := by decide
  have z7 : (7 : Int32).toInt = 7 := by decide
  unfold fm_isRoad
  rw [fm_in_0 (by omega)]; rfl
theorem isp1 {p : Int32} (h : 0 ≤ p.toInt ∧ p.toInt ≤ 99999999) : fm_isPoint p = some (1 : Int32) := by
  have z0 : (0 : Int32).toInt = 0 := by decide
  have z9 : (99999999 : Int32).toInt = 99999999 := by decide
  unfold fm_isPoint
  rw [fm_in_1 (by omega)]; rfl
theorem isp0 {p : Int32} (h : ¬ (0 ≤ p.toInt ∧ p.toInt ≤ 99999999)) : fm_isPoint p = some (0 : Int32) := by
  have z0 : (0 : Int32).toInt = 0 := by decide
  have z9 : (99999999 : Int32).toInt = 99999999 := by decide
  unfold fm_isPoint
  rw [fm_in_0 (by omega)]; rfl
theorem lk_point (R : RA u w) (S : RS u) (I : IC g u) (J : IM g w) (p1 p2 : Int32) : ∃ rv rz, fcJ_point u p1 p2 = some rv ∧ fm_point w p1 p2 = some rz ∧ RA rv.2.2 rz.2 ∧ RS rv.2.2 := by
  have z8 : (8 : Int32).toInt = 8 := by decide
  have zp : (100000000 : Int32).toInt = 100000000 := by decide
  have h59 : ∀ y1 y2 y3 k : Int32, fm_throwing w y1 y2 y3 = some ((1 : Int32), g_sI w 0 k) → fm_point_59 w p1 p2 y1 y2 y3 = some ((0 : Int32), g_sI w 0 k) := fun y1 y2 y3 k hk => by
    unfold fm_point_59
    rw [bi_s hk]
    dsimp only
    rw [if_neg (by decide)]
  by_cases hK : 0 ≤ p1.toInt ∧ p1.toInt ≤ 7
  · obtain ⟨r, hr, hr2, -⟩ := nat_of (p := p1) (n := 8) (by omega)
    have r8 : r < 8 := by omega
    have cr : (nI r).toNatClampNeg = r := n31 (by omega)
    have Er : ∀ {β : Type} (x : Option β), ck (nI r) 8 x = x := fun x => ck_nI r8 (by decide)
    have w5 : w.2 5 = u.2 5 := (RA_k R 5 (by decide)).symm
    have r5 := IC_r5 I r
    have E1a : ∀ v3, fcJ_isBelow p2 (100000000 : Int32) = some v3 → fcJ_point u p1 p2 = (fcJ_needRange v3).bind fun v4 => if v4 = 0 then (if (8 : Int32) ≤ u.2 5 r then (fcJ_point_37 u (nI r) p2 (0 : Int32)) else fcJ_point_37 u (nI r) p2 (1 : Int32)) else some (v4, (0 : Int32), u) := fun v3 hv => by
      unfold fcJ_point
      rw [bi_s (isb1 (by omega)), bi_s nk1, if_pos rfl, bi_s hv, hr, Er, cr]
    by_cases hP : 0 ≤ p2.toInt ∧ p2.toInt ≤ 99999999
    · have E1b := E1a 1 (isb1 (by omega))
      rw [bi_s ng1, if_pos rfl] at E1b
      have E2b : fm_point w p1 p2 = fm_point_48 w (nI r) p2 (0 : Int32) (0 : Int32) (nI r) := by
        unfold fm_point
        rw [bi_s (isr1 hK), if_pos (by decide)]
        unfold fm_point_13
        rw [bi_s (isp1 hP), if_pos (by decide)]
        unfold fm_point_25
        rw [bi_s (isr1 hK), if_neg (by decide), bi_s (isr1 hK), if_neg (by decide), hr]
      by_cases h8 : (8 : Int32) ≤ u.2 5 r
      · have e8 : u.2 5 r = 8 := Int32.toInt_inj.mp (by have := Int32.le_iff_toInt_le.mp h8; omega)
        rw [if_pos h8] at E1b
        unfold fcJ_point_37 at E1b
        rw [bi_s nr0, if_neg (by decide)] at E1b
        unfold fm_point_48 at E2b
        rw [Er, cr, w5, if_neg (fun q => q e8), ← hr, h59 0 0 1 3 (fm_thr_3 w)] at E2b
        exact ⟨_, _, E1b, E2b, RA_0 R 3, S⟩
      · have h8' := mt Int32.le_iff_toInt_le.mpr h8
        have n8 : ¬ u.2 5 r = 8 := fun q => by rw [q] at h8'; exact h8' (Int.le_refl _)
        obtain ⟨s, hs, hs2, -⟩ := nat_of (p := u.2 5 r) (n := 8) (by omega)
        have ix : nI r * (8 : Int32) + u.2 5 r = nI (8 * r + s) := by
          rw [hs, show (8 : Int32) = nI 8 from rfl, pk_mul, nI_add, Nat.mul_comm]
        have ix2 : (8 : Int32) * nI r + u.2 5 r = nI (8 * r + s) := by
          rw [hs, show (8 : Int32) = nI 8 from rfl, pk_mul, nI_add]
        have u5 : (g_sA u 6 (nI (8 * r + s)) p2).2 5 = u.2 5 := eqf_w 6 _ _ 5 (by decide)
        have v5 : (g_sA (g_sI w 0 0) 6 (nI (8 * r + s)) p2).2 5 = u.2 5 := by rw [eqf_w 6 _ _ 5 (by decide)]; exact w5
        rw [if_neg h8] at E1b
        have A : ∃ a, fcR_append u (nI r) p2 = some (a, g_sA (g_sA u 6 (nI (8 * r + s)) p2) 5 (nI r) (u.2 5 r + (1 : Int32))) := by
          unfold fcR_append
          rw [Er, cr, ix, ck_nI (n := 64) (by omega) (by decide), gl_r, Er, Er, gl_r, Er, u5]
          exact ⟨_, rfl⟩
        obtain ⟨a, A⟩ := A
        unfold fcJ_point_37 at E1b
        rw [bi_s nr1, if_pos rfl, bi_s A] at E1b
        have B : ∃ b, fm_point_59 w (nI r) p2 (0 : Int32) (0 : Int32) (0 : Int32) = some (b, g_sA (g_sA (g_sI w 0 0) 6 (nI (8 * r + s)) p2) 5 (nI r) (u.2 5 r + (1 : Int32))) := by
          unfold fm_point_59
          rw [bi_s (fm_thr_0 w)]
          dsimp only
          rw [if_pos rfl, Er, cr, show (g_sI w 0 0).2 5 r = u.2 5 r by rw [← w5]; rfl, ix2, ck_nI (n := 64) (by omega) (by decide), gl_r, Er, Er, gl_r, Er, v5]
          exact ⟨_, rfl⟩
        obtain ⟨b, B⟩ := B
        unfold fm_point_48 at E2b
        rw [Er, cr, w5, if_pos n8, B] at E2b
        exact ⟨_, _, E1b, E2b, RA_ws (RA_ws (RA_0 R 0) 6 _ _ (by decide)) 5 _ _ (by decide), RS_w (RS_w6 S _ _ hP) 5 _ _ (by decide)⟩
    · have E1b := E1a 0 (isb0 (by omega))
      rw [bi_s ng0, if_neg (by decide)] at E1b
      have E2b : fm_point w p1 p2 = some ((0 : Int32), g_sI w 0 2) := by
        unfold fm_point
        rw [bi_s (isr1 hK), if_pos (by decide)]
        unfold fm_point_13
        rw [bi_s (isp0 hP), if_neg (fun q => q rfl)]
        unfold fm_point_25
        rw [bi_s (isr1 hK), if_neg (by decide), bi_s (isr1 hK), if_neg (by decide)]
        unfold fm_point_48
        rw [hr, Er, ← hr, h59 0 1 0 2 (fm_thr_2 w 0), h59 0 1 1 2 (fm_thr_2 w 1)]
        split <;> rfl
      exact ⟨_, _, E1b, E2b, RA_0 R 2, S⟩
  · have E1 : fcJ_point u p1 p2 = some (1, (0 : Int32), u) := by
      unfold fcJ_point
      rw [bi_s (isb0 (by omega)), bi_s nk0, if_neg (by decide)]
    have h25 : ∀ y2 : Int32, fm_point_25 w p1 p2 (1 : Int32) y2 = some ((0 : Int32), g_sI w 0 1) := fun y2 => by
      unfold fm_point_25
      rw [bi_s (isr0 hK), if_pos rfl, h59 1 y2 0 1 (fm_thr_1 w y2 0)]
    have E2 : fm_point w p1 p2 = some ((0 : Int32), g_sI w 0 1) := by
      unfold fm_point
      rw [bi_s (isr0 hK), if_neg (fun q => q rfl)]
      unfold fm_point_13
      by_cases hP : 0 ≤ p2.toInt ∧ p2.toInt ≤ 99999999
      · rw [bi_s (isp1 hP), if_pos (by decide)]; exact h25 _
      · rw [bi_s (isp0 hP), if_neg (fun q => q rfl)]; exact h25 _
    exact ⟨_, _, E1, E2, RA_0 R 1, S⟩
end PTK
end
section
section SPK
variable {g : Nat → Int32} {u w : g_S}
def spC (u : g_S) (t M N : Nat) : g_S := g_sA (g_sA (mvS (bgS u (u.2 8 t) (nI t)) (nI t) (nI M) N) 14 (nI t) (-1 : Int32)) 15 (nI t) (0 : Int32)
theorem splitc_go (I : IC g u) {t M N : Nat} (ht : t < 120) (hM : u.1 1 = nI M) (hM2 : M < 60) (hN : u.1 0 = nI N) (hN2 : N ≤ 120) : fcJ_split_60 u (nI t) (1 : Int32) = some (0, nI M, spC u t M N) := by
  have Et : ∀ {β : Type} (x : Option β), ck (nI t) 121 x = x := fun x => ck_nI (by omega) (by decide)
  have hb := begin_e I (by rw [hM, nI_toInt (by omega)]; omega) (u.2 8 t) (nI t)
  rw [hM] at hb
  have h14 : (bgS u (u.2 8 t) (nI t)).2 14 = u.2 14 := bgS_o _ _ 14 (by decide)
  have hmv : fcA_moveBranch (bgS u (u.2 8 t) (nI t)) (nI t) (nI M) = some (mvS (bgS u (u.2 8 t) (nI t)) (nI t) (nI M) N) := by
    have h := move_c (u := bgS u (u.2 8 t) (nI t)) (fun j => by rw [h14]; exact IC_r14 I j) (nI t) (nI M) (N := N) hN hN2 N 200 0 (by omega) (by omega)
    rw [mvS_0, nI_0] at h
    unfold fcA_moveBranch
    exact h
  unfold fcJ_split_60
  rw [bi_s nr1, if_pos rfl, Et, n31 (by omega), bi_s hb]
  dsimp only
  rw [bi_s hmv, Et, gl_r, Et, gl_r]
  rfl
def spV (w : g_S) (t M : Nat) : g_S := g_sA (g_sA (g_sA (neS w) 13 (nI t) (-1 : Int32)) 15 (nI t) (0 : Int32)) 12 (nI t) (nI M)
theorem splitm_go (J : IM g w) {t M : Nat} (ht : (t : Int) < (w.1 1).toInt) (hM : w.1 2 = nI M) (hM2 : M < 60) : fm_split_66 w (nI t) (0 : Int32) (0 : Int32) (0 : Int32) = fm_split_113 200 (spV (g_sI w 0 0) t M) (nI M) (w.2 12 t) (1 : Int32) := by
  have z := IM_s J
  have Et : ∀ {β : Type} (x : Option β), ck (nI t) 120 x = x := fun x => ck_nI (by omega) (by decide)
  have hb := newEvent_e (w := g_sI w 0 0) (by show 0 ≤ (w.1 2).toInt; omega) (by show (w.1 2).toInt < 60; rw [hM, nI_toInt (by omega)]; omega)
  rw [show (g_sI w 0 0).1 2 = nI M from hM] at hb
  unfold fm_split_66
  rw [bi_s (fm_thr_0 w)]
  dsimp only
  rw [if_pos rfl, bi_s hb]
  dsimp only
  rw [Et, gl_r, Et, gl_r, Et, gl_r, Et, gl_r, n31 (by omega), eqf_w 15 _ _ 12 (by decide), eqf_w 13 _ _ 12 (by decide), neS_o 12 (by decide)]
  rfl
end SPK
end
section
section SPR
variable {g : Nat → Int32} {u w : g_S}
theorem RA_split {u' w' : g_S} {M N : Nat} (R : RA u w) (hN : (u.1 0).toInt = N) (hM : (u.1 1).toInt = M) (i0 : u'.1 0 = u.1 0) (j0 : w'.1 1 = w.1 1) (i1 : u'.1 1 = w'.1 2) (iM : (u'.1 1).toInt = M + 1)
    (ha : ∀ k, (k < 13 ∨ k = 16) → u'.2 k = u.2 k) (hb : ∀ k, (k < 12 ∨ k = 14) → w'.2 k = w.2 k)
    (c13 : ∀ d, d < N → u'.2 13 d = w'.2 12 d) (c14 : ∀ d, d < N → u'.2 14 d = w'.2 13 d) (c15 : ∀ d, d < N → u'.2 15 d = w'.2 15 d)
    (ue : ∀ k d : Nat, 17 ≤ k → ¬ d = M → u'.2 k d = u.2 k d) (we : ∀ k d : Nat, 16 ≤ k → ¬ d = M → w'.2 k d = w.2 k d)
    (un : u'.2 17 M = 0 ∧ u'.2 20 M = -1) (wn : w'.2 16 M = 0 ∧ w'.2 17 M = -1) : RA u' w' := by
  refine ⟨by rw [i0, j0]; exact R.1, i1, fun k hk => ?_, fun d hd => ?_, fun d hd => ?_⟩
  · rw [ha k (by omega), hb k (by omega)]; exact R.2.2.1 k hk
  · rw [i0] at hd
    have hdN : d < N := by omega
    obtain ⟨q7, q8, q9, q10, q12, -, -, -, q16⟩ := R.2.2.2.1 d hd
    refine ⟨?_, ?_, ?_, ?_, ?_, c13 d hdN, c14 d hdN, c15 d hdN, ?_⟩
    · rw [ha 7 (by omega), hb 7 (by omega)]; exact q7
    · rw [ha 8 (by omega), hb 8 (by omega)]; exact q8
    · rw [ha 9 (by omega), hb 9 (by omega)]; exact q9
    · rw [ha 10 (by omega), hb 10 (by omega)]; exact q10
    · rw [ha 12 (by omega), hb 11 (by omega)]; exact q12
    · rw [ha 16 (by omega), hb 14 (by omega)]; exact q16
  · by_cases q : d = M
    · rw [q, un.1, un.2, wn.1, wn.2]
      exact ⟨rfl, fun _ => ⟨rfl, fun y => absurd rfl y⟩⟩
    · rw [ue 17 d (by omega) q, ue 20 d (by omega) q, ue 21 d (by omega) q, ue 22 d (by omega) q, we 16 d (by omega) q, we 17 d (by omega) q, we 18 d (by omega) q, we 19 d (by omega) q]
      exact R.2.2.2.2 d (by omega)
end SPR
end
section
section SPS
variable {g : Nat → Int32} {u w : g_S}
theorem und_m1 (f : Nat → Int32) (top : Int32) : ∀ n, und f top n (-1 : Int32) = false := by
  intro n
  cases n with
  | zero => rfl
  | succ n => rw [und_s, if_pos rfl]
theorem und_st {f : Nat → Int32} {t d : Nat} (ht : t < 120) (hd : d < 120) (h : ¬ d = t) (n : Nat) : und f (nI t) (n + 1) (nI d) = und f (nI t) n (f d) := by
  rw [und_s, if_neg (nI_m1 (by omega)), if_neg (fun q => h ((nI_eq (by omega) (by omega)).mp q)), nI_clamp (by omega)]
theorem und_t {f : Nat → Int32} {t : Nat} (ht : t < 120) (n : Nat) : und f (nI t) (n + 1) (nI t) = true := by
  rw [und_s, if_neg (nI_m1 (by omega)), if_pos rfl]
theorem RS_split {u' : g_S} {t M N : Nat} (S : RS u) (I : IC g u) (hN : (u.1 0).toInt = N) (hM : (u.1 1).toInt = M) (ht : t < N) (i0 : u'.1 0 = u.1 0) (iM : (u'.1 1).toInt = M + 1) (ha : ∀ k, k < 13 → u'.2 k = u.2 k)
    (c13 : ∀ d, d < N → u'.2 13 d = if und (u.2 14) (nI t) 120 (nI d) = true then nI M else u.2 13 d) (c14 : ∀ d, u'.2 14 d = if d = t then -1 else u.2 14 d)
    (ue : ∀ k d : Nat, 17 ≤ k → ¬ d = M → u'.2 k d = u.2 k d) (un : u'.2 18 M = u.2 8 t ∧ u'.2 19 M = nI t) (hr : 0 ≤ (u.2 14 t).toInt)
    (hcl : ∀ (n d : Nat), d < N → und (u.2 14) (nI t) n (nI d) = true → und (u.2 14) (nI t) 120 (nI d) = true) : RS u' := by
  have z := IC_s I
  have zm : (-1 : Int32).toInt = -1 := by decide
  obtain ⟨s1, s2, s3, s4⟩ := S
  have nM : (nI M).toInt = M := nI_toInt (by omega)
  have nt : (nI t).toInt = t := nI_toInt (by omega)
  have cnt : (nI t).toNatClampNeg = t := n31 (by omega)
  have root : ∀ d, d < N → ¬ d = t → (u.2 14 d).toInt < 0 → ¬ und (u.2 14) (nI t) 120 (nI d) = true := fun d hd hne h0 q => by
    have r := IC_r14 I d
    have e : u.2 14 d = -1 := Int32.toInt_inj.mp (by omega)
    rw [und_st (by omega) (by omega) hne 119, e, und_m1] at q
    cases q
  refine ⟨by rw [ha 6 (by omega)]; exact s1, fun d hd => ?_, fun d hd h0 => ?_, fun e he h3 => ?_⟩
  · rw [i0] at hd ⊢
    obtain ⟨a1, a2, a3, a4, a5⟩ := s2 d hd
    rw [ha 12 (by omega), ha 9 (by omega), c13 d (by omega), c14 d, iM]
    refine ⟨a1, a2, a3, ?_, ?_⟩
    · by_cases q : und (u.2 14) (nI t) 120 (nI d) = true
      · rw [if_pos q]; omega
      · rw [if_neg q]; omega
    · by_cases q : d = t
      · rw [if_pos q]; omega
      · rw [if_neg q]; exact a5
  · rw [i0] at hd
    rw [c14 d] at h0 ⊢
    by_cases q : d = t
    · rw [if_pos q] at h0; omega
    · rw [if_neg q] at h0 ⊢
      have hx : ((u.2 14 d).toNatClampNeg : Int) = (u.2 14 d).toInt := cl_I h0
      have hxN := (s2 d hd).2.2.2.2
      have e9 : nI (u.2 14 d).toNatClampNeg = u.2 14 d := Int32.toInt_inj.mp (by rw [nI_toInt (by omega)]; exact hx)
      rw [c13 _ (by omega), c13 d (by omega)]
      by_cases y : und (u.2 14) (nI t) 120 (nI d) = true
      · have y2 : und (u.2 14) (nI t) 120 (nI (u.2 14 d).toNatClampNeg) = true := by
          have y3 := y
          rw [und_st (by omega) (by omega) q 119] at y3
          rw [e9]; exact und_m y3
        rw [if_pos y, if_pos y2]
      · have y2 : ¬ und (u.2 14) (nI t) 120 (nI (u.2 14 d).toNatClampNeg) = true := fun y3 => y (hcl 121 d (by omega) (by
          rw [und_st (by omega) (by omega) q 120, ← e9]; exact y3))
        rw [if_neg y, if_neg y2]
        exact s3 d hd h0
  · by_cases q : e = M
    · rw [q, un.1, un.2, cnt, ha 8 (by omega), c13 t ht, if_pos (und_t (by omega) 119), c14 t, if_pos rfl, i0]
      refine ⟨by omega, by omega, nM, rfl, rfl, fun d hd b1 b2 => ?_⟩
      rw [c14 d] at b2
      rw [c13 d (by omega)] at b1
      by_cases y : d = t
      · omega
      · rw [if_neg y] at b2
        rw [if_neg (root d (by omega) y b2)] at b1
        have := (s2 d hd).2.2.2.1
        omega
    · rw [ue 17 e (by omega) q] at h3
      have heu : (e : Int) < (u.1 1).toInt := by omega
      obtain ⟨a1, a2, a3, a4, a5, a6⟩ := s4 e heu h3
      have hx : ((u.2 19 e).toNatClampNeg : Int) = (u.2 19 e).toInt := cl_I a1
      have hft : ¬ (u.2 19 e).toNatClampNeg = t := fun y => by rw [y] at a4; rw [a4] at hr; omega
      rw [ue 18 e (by omega) q, ue 19 e (by omega) q, ha 8 (by omega), i0, c13 _ (by omega), if_neg (root _ (by omega) hft (by rw [a4]; omega)), c14, if_neg hft]
      refine ⟨a1, a2, a3, a4, a5, fun d hd b1 b2 => ?_⟩
      rw [c14 d] at b2
      rw [c13 d (by omega)] at b1
      by_cases y : und (u.2 14) (nI t) 120 (nI d) = true
      · rw [if_pos y] at b1; omega
      · rw [if_neg y] at b1
        by_cases y2 : d = t
        · exact absurd (by rw [y2]; exact und_t (by omega) 119) y
        · rw [if_neg y2] at b2
          exact a6 d hd b1 b2
end SPS
end
