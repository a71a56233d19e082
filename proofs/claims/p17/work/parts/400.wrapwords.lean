def rmL_rule : Room := { frames := 8, cells := 1, slots := 6, locals := 127 }
abbrev wxL_rule : List Cond := .codeWith yL_rule cL_rule 7 (some .int) [(0, 11, 14, 13), (0, 11, 18, 15)] :: gT
theorem wxL_rule_in : (.codeWith yL_rule cL_rule 7 (some .int) [(0, 11, 14, 13), (0, 11, 18, 15)] : Cond) ∈ gT := gT_of (List.mem_append_right _ (List.mem_of_getElem? (i := 171) (by decide +kernel))) (by decide +kernel)
theorem glw_7 : GoodIn gT (wsV RL 7 RX4 yX4_rule wxX4_rule) := gT_V kt_174 kt_175 kt_176 kt_1 wxX4_rule_in
def rmL_weight : Room := { frames := 8, cells := 1, slots := 6, locals := 125 }
abbrev wxL_weight : List Cond := .codeWith yL_weight cL_weight 5 (some .int) [(0, 7, 10, 13), (0, 7, 14, 15)] :: gT
theorem wxL_weight_in : (.codeWith yL_weight cL_weight 5 (some .int) [(0, 7, 10, 13), (0, 7, 14, 15)] : Cond) ∈ gT := gT_of (List.mem_append_right _ (List.mem_of_getElem? (i := 276) (by decide +kernel))) (by decide +kernel)
theorem glw_17 : GoodIn gT (wsV RL 17 RX4 yX4_weight wxX4_weight) := gT_V kt_277 kt_278 kt_279 kt_1 wxX4_weight_in
def rmL_point : Room := { frames := 8, cells := 1, slots := 6, locals := 124 }
abbrev wxL_point : List Cond := .codeWith yL_point cL_point 5 (some .int) [(0, 10, 13, 13), (0, 10, 17, 15), (0, 10, 21, 25)] :: gT
theorem wxL_point_in : (.codeWith yL_point cL_point 5 (some .int) [(0, 10, 13, 13), (0, 10, 17, 15), (0, 10, 21, 25)] : Cond) ∈ gT := gT_of (List.mem_append_right _ (List.mem_of_getElem? (i := 283) (by decide +kernel))) (by decide +kernel)
theorem glw_21 : GoodIn gT (wsV RL 21 RX4 yX4_point wxX4_point) := gT_V kt_285 kt_286 kt_287 kt_1 wxX4_point_in
def rmL_call : Room := { frames := 9, cells := 1, slots := 6, locals := 202 }
abbrev wxL_call : List Cond := .codeWith yL_call cL_call 9 (some .int) [(0, 18, 21, 13), (0, 18, 25, 15), (0, 18, 29, 25)] :: gT
theorem wxL_call_in : (.codeWith yL_call cL_call 9 (some .int) [(0, 18, 21, 13), (0, 18, 25, 15), (0, 18, 29, 25)] : Cond) ∈ gT := gT_of (List.mem_append_right _ (List.mem_of_getElem? (i := 315) (by decide +kernel))) (by decide +kernel)
theorem glw_27 : GoodIn gT (wsV RL 27 RX4 yX4_call wxX4_call) := gT_V kt_316 kt_317 kt_318 kt_1 wxX4_call_in
def rmL_reasonFor : Room := { frames := 9, cells := 1, slots := 6, locals := 201 }
abbrev wxL_reasonFor : List Cond := .codeWith yL_reasonFor cL_reasonFor 9 (some .int) [(0, 18, 21, 13), (0, 18, 25, 15)] :: gT
theorem wxL_reasonFor_in : (.codeWith yL_reasonFor cL_reasonFor 9 (some .int) [(0, 18, 21, 13), (0, 18, 25, 15)] : Cond) ∈ gT := gT_of (List.mem_append_right _ (List.mem_of_getElem? (i := 423) (by decide +kernel))) (by decide +kernel)
theorem glw_31 : GoodIn gT (wsV RL 31 RX4 yX4_reasonFor wxX4_reasonFor) := gT_V kt_424 kt_425 kt_426 kt_1 wxX4_reasonFor_in
def rmL_mark : Room := { frames := 8, cells := 1, slots := 6, locals := 124 }
abbrev wxL_mark : List Cond := .codeWith yL_mark cL_mark 4 (some .int) [(0, 6, 9, 13), (0, 6, 12, 15)] :: gT
theorem wxL_mark_in : (.codeWith yL_mark cL_mark 4 (some .int) [(0, 6, 9, 13), (0, 6, 12, 15)] : Cond) ∈ gT := gT_of (List.mem_append_right _ (List.mem_of_getElem? (i := 430) (by decide +kernel))) (by decide +kernel)
theorem glw_34 : GoodIn gT (wsV RL 34 RX4 yX4_mark wxX4_mark) := gT_V kt_431 kt_432 kt_433 kt_1 wxX4_mark_in
def rmL_split : Room := { frames := 8, cells := 1, slots := 6, locals := 124 }
abbrev wxL_split : List Cond := .codeWith yL_split cL_split 4 (some .int) [(0, 9, 12, 13), (0, 9, 15, 42), (0, 9, 18, 25)] :: gT
theorem wxL_split_in : (.codeWith yL_split cL_split 4 (some .int) [(0, 9, 12, 13), (0, 9, 15, 42), (0, 9, 18, 25)] : Cond) ∈ gT := gT_of (List.mem_append_right _ (List.mem_of_getElem? (i := 437) (by decide +kernel))) (by decide +kernel)
theorem glw_38 : GoodIn gT (wsV RL 38 RX4 yX4_split wxX4_split) := gT_V kt_439 kt_440 kt_441 kt_1 wxX4_split_in
def rmL_merge : Room := { frames := 8, cells := 1, slots := 6, locals := 126 }
abbrev wxL_merge : List Cond := .codeWith yL_merge cL_merge 5 (some .int) [(0, 10, 13, 13), (0, 10, 17, 42)] :: gT
theorem wxL_merge_in : (.codeWith yL_merge cL_merge 5 (some .int) [(0, 10, 13, 13), (0, 10, 17, 42)] : Cond) ∈ gT := gT_of (List.mem_append_right _ (List.mem_of_getElem? (i := 472) (by decide +kernel))) (by decide +kernel)
theorem glw_44 : GoodIn gT (wsV RL 44 RX4 yX4_merge wxX4_merge) := gT_V kt_473 kt_474 kt_475 kt_1 wxX4_merge_in
def rmL_watch : Room := { frames := 8, cells := 1, slots := 6, locals := 126 }
abbrev wxL_watch : List Cond := .codeWith yL_watch cL_watch 6 (some .int) [(0, 9, 12, 13), (0, 9, 16, 15), (0, 9, 20, 42)] :: gT
theorem wxL_watch_in : (.codeWith yL_watch cL_watch 6 (some .int) [(0, 9, 12, 13), (0, 9, 16, 15), (0, 9, 20, 42)] : Cond) ∈ gT := gT_of (List.mem_append_right _ (List.mem_of_getElem? (i := 487) (by decide +kernel))) (by decide +kernel)
theorem glw_47 : GoodIn gT (wsV RL 47 RX4 yX4_watch wxX4_watch) := gT_V kt_488 kt_489 kt_490 kt_1 wxX4_watch_in
def rmL_state : Room := { frames := 8, cells := 1, slots := 6, locals := 124 }
abbrev wxL_state : List Cond := .codeWith yL_state cL_state 4 (some .int) [(0, 6, 9, 13), (0, 6, 12, 15), (0, 6, 15, 42)] :: gT
theorem wxL_state_in : (.codeWith yL_state cL_state 4 (some .int) [(0, 6, 9, 13), (0, 6, 12, 15), (0, 6, 15, 42)] : Cond) ∈ gT := gT_of (List.mem_append_right _ (List.mem_of_getElem? (i := 500) (by decide +kernel))) (by decide +kernel)
theorem glw_51 : GoodIn gT (wsV RL 51 RX4 yX4_state wxX4_state) := gT_V kt_501 kt_502 kt_503 kt_1 wxX4_state_in
def rmL_share : Room := { frames := 9, cells := 1, slots := 6, locals := 148 }
abbrev wxL_share : List Cond := .codeWith yL_share cL_share 5 (some .int) [(0, 10, 13, 13), (0, 10, 17, 57)] :: gT
theorem wxL_share_in : (.codeWith yL_share cL_share 5 (some .int) [(0, 10, 13, 13), (0, 10, 17, 57)] : Cond) ∈ gT := gT_of (List.mem_append_right _ (List.mem_of_getElem? (i := 507) (by decide +kernel))) (by decide +kernel)
theorem glw_54 : GoodIn gT (wsV RL 54 RX4 yX4_share wxX4_share) := gT_V kt_509 kt_510 kt_511 kt_1 wxX4_share_in
def rmL_agree : Room := { frames := 9, cells := 1, slots := 6, locals := 146 }
abbrev wxL_agree : List Cond := .codeWith yL_agree cL_agree 5 (some .int) [(0, 10, 13, 13)] :: gT
theorem wxL_agree_in : (.codeWith yL_agree cL_agree 5 (some .int) [(0, 10, 13, 13)] : Cond) ∈ gT := gT_of (List.mem_append_right _ (List.mem_of_getElem? (i := 535) (by decide +kernel))) (by decide +kernel)
theorem glw_59 : GoodIn gT (wsV RL 59 RX4 yX4_agree wxX4_agree) := gT_V kt_536 kt_537 kt_538 kt_1 wxX4_agree_in
def rmL_callAt : Room := { frames := 8, cells := 1, slots := 6, locals := 124 }
abbrev wxL_callAt : List Cond := .codeWith yL_callAt cL_callAt 5 (some .int) [(0, 10, 13, 13)] :: gT
theorem wxL_callAt_in : (.codeWith yL_callAt cL_callAt 5 (some .int) [(0, 10, 13, 13)] : Cond) ∈ gT := gT_of (List.mem_append_right _ (List.mem_of_getElem? (i := 542) (by decide +kernel))) (by decide +kernel)
theorem glw_62 : GoodIn gT (wsV RL 62 RX4 yX4_callAt wxX4_callAt) := gT_V kt_543 kt_544 kt_545 kt_1 wxX4_callAt_in
def rmL_eventAt : Room := { frames := 8, cells := 1, slots := 6, locals := 124 }
abbrev wxL_eventAt : List Cond := .codeWith yL_eventAt cL_eventAt 5 (some .int) [(0, 10, 13, 13)] :: gT
theorem wxL_eventAt_in : (.codeWith yL_eventAt cL_eventAt 5 (some .int) [(0, 10, 13, 13)] : Cond) ∈ gT := gT_of (List.mem_append_right _ (List.mem_of_getElem? (i := 549) (by decide +kernel))) (by decide +kernel)
theorem glw_65 : GoodIn gT (wsV RL 65 RX4 yX4_eventAt wxX4_eventAt) := gT_V kt_550 kt_551 kt_552 kt_1 wxX4_eventAt_in
def rmL_member : Room := { frames := 8, cells := 1, slots := 6, locals := 125 }
abbrev wxL_member : List Cond := .codeWith yL_member cL_member 5 (some .int) [(0, 10, 13, 13), (0, 10, 17, 15)] :: gT
theorem wxL_member_in : (.codeWith yL_member cL_member 5 (some .int) [(0, 10, 13, 13), (0, 10, 17, 15)] : Cond) ∈ gT := gT_of (List.mem_append_right _ (List.mem_of_getElem? (i := 573) (by decide +kernel))) (by decide +kernel)
theorem glw_68 : GoodIn gT (wsV RL 68 RX4 yX4_member wxX4_member) := gT_V kt_574 kt_575 kt_576 kt_1 wxX4_member_in
def rmL_count : Room := { frames := 8, cells := 1, slots := 6, locals := 123 }
abbrev wxL_count : List Cond := .codeWith yL_count cL_count 4 (some .int) [(0, 9, 12, 13)] :: gT
theorem wxL_count_in : (.codeWith yL_count cL_count 4 (some .int) [(0, 9, 12, 13)] : Cond) ∈ gT := gT_of (List.mem_append_right _ (List.mem_of_getElem? (i := 584) (by decide +kernel))) (by decide +kernel)
theorem glw_71 : GoodIn gT (wsV RL 71 RX4 yX4_count wxX4_count) := gT_V kt_585 kt_586 kt_587 kt_1 wxX4_count_in
theorem glaw_78 : GoodIn gT (va_wsS RL 78 yL_rule wxL_rule) := gT_vS kt_169 kt_170 kt_0 wxL_rule_in
theorem glaw_83 : GoodIn gT (wsV RL 83 RX6 yX6_rule wxX6_rule) := gT_V kt_680 kt_681 kt_682 kt_7 wxX6_rule_in
theorem glaw_84 : GoodIn gT (va_wsS RL 84 yL_weight wxL_weight) := gT_vS kt_274 kt_275 kt_0 wxL_weight_in
theorem glaw_87 : GoodIn gT (wsV RL 87 RX6 yX6_weight wxX6_weight) := gT_V kt_695 kt_696 kt_697 kt_7 wxX6_weight_in
theorem glaw_88 : GoodIn gT (va_wsS RL 88 yL_point wxL_point) := gT_vS kt_281 kt_282 kt_0 wxL_point_in
theorem glaw_91 : GoodIn gT (wsV RL 91 RX6 yX6_point wxX6_point) := gT_V kt_699 kt_700 kt_701 kt_7 wxX6_point_in
theorem glaw_92 : GoodIn gT (va_wsS RL 92 yL_call wxL_call) := gT_vS kt_313 kt_314 kt_0 wxL_call_in
theorem glaw_95 : GoodIn gT (wsV RL 95 RX6 yX6_call wxX6_call) := gT_V kt_710 kt_711 kt_712 kt_7 wxX6_call_in
theorem glaw_96 : GoodIn gT (va_wsS RL 96 yL_reasonFor wxL_reasonFor) := gT_vS kt_421 kt_422 kt_0 wxL_reasonFor_in
theorem glaw_98 : GoodIn gT (wsV RL 98 RX6 yX6_reasonFor wxX6_reasonFor) := gT_V kt_781 kt_782 kt_783 kt_7 wxX6_reasonFor_in
theorem glaw_99 : GoodIn gT (va_wsS RL 99 yL_mark wxL_mark) := gT_vS kt_428 kt_429 kt_0 wxL_mark_in
theorem glaw_102 : GoodIn gT (wsV RL 102 RX6 yX6_mark wxX6_mark) := gT_V kt_785 kt_786 kt_787 kt_7 wxX6_mark_in
theorem glaw_103 : GoodIn gT (va_wsS RL 103 yL_split wxL_split) := gT_vS kt_435 kt_436 kt_0 wxL_split_in
theorem glaw_106 : GoodIn gT (wsV RL 106 RX6 yX6_split wxX6_split) := gT_V kt_793 kt_794 kt_795 kt_7 wxX6_split_in
theorem glaw_107 : GoodIn gT (va_wsS RL 107 yL_merge wxL_merge) := gT_vS kt_470 kt_471 kt_0 wxL_merge_in
theorem glaw_109 : GoodIn gT (wsV RL 109 RX6 yX6_merge wxX6_merge) := gT_V kt_797 kt_798 kt_799 kt_7 wxX6_merge_in
theorem glaw_110 : GoodIn gT (va_wsS RL 110 yL_watch wxL_watch) := gT_vS kt_485 kt_486 kt_0 wxL_watch_in
theorem glaw_113 : GoodIn gT (wsV RL 113 RX6 yX6_watch wxX6_watch) := gT_V kt_809 kt_810 kt_811 kt_7 wxX6_watch_in
theorem glaw_114 : GoodIn gT (va_wsS RL 114 yL_state wxL_state) := gT_vS kt_498 kt_499 kt_0 wxL_state_in
theorem glaw_116 : GoodIn gT (wsV RL 116 RX6 yX6_state wxX6_state) := gT_V kt_813 kt_814 kt_815 kt_7 wxX6_state_in
theorem glaw_117 : GoodIn gT (va_wsS RL 117 yL_share wxL_share) := gT_vS kt_505 kt_506 kt_0 wxL_share_in
theorem glaw_119 : GoodIn gT (wsV RL 119 RX6 yX6_share wxX6_share) := gT_V kt_817 kt_818 kt_819 kt_7 wxX6_share_in
theorem glaw_120 : GoodIn gT (va_wsS RL 120 yL_agree wxL_agree) := gT_vS kt_533 kt_534 kt_0 wxL_agree_in
theorem glaw_122 : GoodIn gT (wsV RL 122 RX6 yX6_agree wxX6_agree) := gT_V kt_821 kt_822 kt_823 kt_7 wxX6_agree_in
theorem glaw_123 : GoodIn gT (va_wsS RL 123 yL_callAt wxL_callAt) := gT_vS kt_540 kt_541 kt_0 wxL_callAt_in
theorem glaw_125 : GoodIn gT (wsV RL 125 RX6 yX6_callAt wxX6_callAt) := gT_V kt_825 kt_826 kt_827 kt_7 wxX6_callAt_in
theorem glaw_126 : GoodIn gT (va_wsS RL 126 yL_eventAt wxL_eventAt) := gT_vS kt_547 kt_548 kt_0 wxL_eventAt_in
theorem glaw_128 : GoodIn gT (wsV RL 128 RX6 yX6_eventAt wxX6_eventAt) := gT_V kt_829 kt_830 kt_831 kt_7 wxX6_eventAt_in
theorem glaw_129 : GoodIn gT (va_wsS RL 129 yL_member wxL_member) := gT_vS kt_571 kt_572 kt_0 wxL_member_in
theorem glaw_131 : GoodIn gT (wsV RL 131 RX6 yX6_member wxX6_member) := gT_V kt_845 kt_846 kt_847 kt_7 wxX6_member_in
theorem glaw_132 : GoodIn gT (va_wsS RL 132 yL_count wxL_count) := gT_vS kt_582 kt_583 kt_0 wxL_count_in
theorem glaw_134 : GoodIn gT (wsV RL 134 RX6 yX6_count wxX6_count) := gT_V kt_849 kt_850 kt_851 kt_7 wxX6_count_in
theorem glaw_135 : GoodIn gT (wsV RL 135 RX6 yX6_thrown wxX6_thrown) := gT_V kt_676 kt_677 kt_678 kt_7 wxX6_thrown_in
