theorem klw_0 : (.classLink RL 13 "java/lang/IllegalArgumentException" : Cond) ∈ gT := gT_of (List.mem_append_right _ (List.mem_of_getElem? (i := 172) (by decide +kernel))) (by decide +kernel)
theorem klw_1 : (.classLink RL 15 "java/lang/IndexOutOfBoundsException" : Cond) ∈ gT := gT_of (List.mem_append_right _ (List.mem_of_getElem? (i := 173) (by decide +kernel))) (by decide +kernel)
theorem klw_2 : (.methodLink RL 7 yX4_rule : Cond) ∈ gT := gT_of (List.mem_append_right _ (List.mem_of_getElem? (i := 174) (by decide +kernel))) (by decide +kernel)
theorem klw_3 : (.instanceMethod yX4_rule : Cond) ∈ gT := gT_of (List.mem_append_right _ (List.mem_of_getElem? (i := 175) (by decide +kernel))) (by decide +kernel)
theorem klw_4 : (.selects RX4 yX4_rule yX4_rule : Cond) ∈ gT := gT_of (List.mem_append_right _ (List.mem_of_getElem? (i := 176) (by decide +kernel))) (by decide +kernel)
theorem klw_5 : (.initialized RX4 : Cond) ∈ gT := gT_of (List.mem_append_right _ (List.mem_of_getElem? (i := 1) (by decide +kernel))) (by decide +kernel)
theorem klw_6 : (.methodLink RL 17 yX4_weight : Cond) ∈ gT := gT_of (List.mem_append_right _ (List.mem_of_getElem? (i := 277) (by decide +kernel))) (by decide +kernel)
theorem klw_7 : (.instanceMethod yX4_weight : Cond) ∈ gT := gT_of (List.mem_append_right _ (List.mem_of_getElem? (i := 278) (by decide +kernel))) (by decide +kernel)
theorem klw_8 : (.selects RX4 yX4_weight yX4_weight : Cond) ∈ gT := gT_of (List.mem_append_right _ (List.mem_of_getElem? (i := 279) (by decide +kernel))) (by decide +kernel)
theorem klw_9 : (.classLink RL 25 "java/lang/UnsupportedOperationException" : Cond) ∈ gT := gT_of (List.mem_append_right _ (List.mem_of_getElem? (i := 284) (by decide +kernel))) (by decide +kernel)
theorem klw_10 : (.methodLink RL 21 yX4_point : Cond) ∈ gT := gT_of (List.mem_append_right _ (List.mem_of_getElem? (i := 285) (by decide +kernel))) (by decide +kernel)
theorem klw_11 : (.instanceMethod yX4_point : Cond) ∈ gT := gT_of (List.mem_append_right _ (List.mem_of_getElem? (i := 286) (by decide +kernel))) (by decide +kernel)
theorem klw_12 : (.selects RX4 yX4_point yX4_point : Cond) ∈ gT := gT_of (List.mem_append_right _ (List.mem_of_getElem? (i := 287) (by decide +kernel))) (by decide +kernel)
theorem klw_13 : (.methodLink RL 27 yX4_call : Cond) ∈ gT := gT_of (List.mem_append_right _ (List.mem_of_getElem? (i := 316) (by decide +kernel))) (by decide +kernel)
theorem klw_14 : (.instanceMethod yX4_call : Cond) ∈ gT := gT_of (List.mem_append_right _ (List.mem_of_getElem? (i := 317) (by decide +kernel))) (by decide +kernel)
theorem klw_15 : (.selects RX4 yX4_call yX4_call : Cond) ∈ gT := gT_of (List.mem_append_right _ (List.mem_of_getElem? (i := 318) (by decide +kernel))) (by decide +kernel)
theorem klw_16 : (.methodLink RL 31 yX4_reasonFor : Cond) ∈ gT := gT_of (List.mem_append_right _ (List.mem_of_getElem? (i := 424) (by decide +kernel))) (by decide +kernel)
theorem klw_17 : (.instanceMethod yX4_reasonFor : Cond) ∈ gT := gT_of (List.mem_append_right _ (List.mem_of_getElem? (i := 425) (by decide +kernel))) (by decide +kernel)
theorem klw_18 : (.selects RX4 yX4_reasonFor yX4_reasonFor : Cond) ∈ gT := gT_of (List.mem_append_right _ (List.mem_of_getElem? (i := 426) (by decide +kernel))) (by decide +kernel)
theorem klw_19 : (.methodLink RL 34 yX4_mark : Cond) ∈ gT := gT_of (List.mem_append_right _ (List.mem_of_getElem? (i := 431) (by decide +kernel))) (by decide +kernel)
theorem klw_20 : (.instanceMethod yX4_mark : Cond) ∈ gT := gT_of (List.mem_append_right _ (List.mem_of_getElem? (i := 432) (by decide +kernel))) (by decide +kernel)
theorem klw_21 : (.selects RX4 yX4_mark yX4_mark : Cond) ∈ gT := gT_of (List.mem_append_right _ (List.mem_of_getElem? (i := 433) (by decide +kernel))) (by decide +kernel)
theorem klw_22 : (.classLink RL 42 "java/lang/IllegalStateException" : Cond) ∈ gT := gT_of (List.mem_append_right _ (List.mem_of_getElem? (i := 438) (by decide +kernel))) (by decide +kernel)
theorem klw_23 : (.methodLink RL 38 yX4_split : Cond) ∈ gT := gT_of (List.mem_append_right _ (List.mem_of_getElem? (i := 439) (by decide +kernel))) (by decide +kernel)
theorem klw_24 : (.instanceMethod yX4_split : Cond) ∈ gT := gT_of (List.mem_append_right _ (List.mem_of_getElem? (i := 440) (by decide +kernel))) (by decide +kernel)
theorem klw_25 : (.selects RX4 yX4_split yX4_split : Cond) ∈ gT := gT_of (List.mem_append_right _ (List.mem_of_getElem? (i := 441) (by decide +kernel))) (by decide +kernel)
theorem klw_26 : (.methodLink RL 44 yX4_merge : Cond) ∈ gT := gT_of (List.mem_append_right _ (List.mem_of_getElem? (i := 473) (by decide +kernel))) (by decide +kernel)
theorem klw_27 : (.instanceMethod yX4_merge : Cond) ∈ gT := gT_of (List.mem_append_right _ (List.mem_of_getElem? (i := 474) (by decide +kernel))) (by decide +kernel)
theorem klw_28 : (.selects RX4 yX4_merge yX4_merge : Cond) ∈ gT := gT_of (List.mem_append_right _ (List.mem_of_getElem? (i := 475) (by decide +kernel))) (by decide +kernel)
theorem klw_29 : (.methodLink RL 47 yX4_watch : Cond) ∈ gT := gT_of (List.mem_append_right _ (List.mem_of_getElem? (i := 488) (by decide +kernel))) (by decide +kernel)
theorem klw_30 : (.instanceMethod yX4_watch : Cond) ∈ gT := gT_of (List.mem_append_right _ (List.mem_of_getElem? (i := 489) (by decide +kernel))) (by decide +kernel)
theorem klw_31 : (.selects RX4 yX4_watch yX4_watch : Cond) ∈ gT := gT_of (List.mem_append_right _ (List.mem_of_getElem? (i := 490) (by decide +kernel))) (by decide +kernel)
theorem klw_32 : (.methodLink RL 51 yX4_state : Cond) ∈ gT := gT_of (List.mem_append_right _ (List.mem_of_getElem? (i := 501) (by decide +kernel))) (by decide +kernel)
theorem klw_33 : (.instanceMethod yX4_state : Cond) ∈ gT := gT_of (List.mem_append_right _ (List.mem_of_getElem? (i := 502) (by decide +kernel))) (by decide +kernel)
theorem klw_34 : (.selects RX4 yX4_state yX4_state : Cond) ∈ gT := gT_of (List.mem_append_right _ (List.mem_of_getElem? (i := 503) (by decide +kernel))) (by decide +kernel)
theorem klw_35 : (.classLink RL 57 "java/lang/ArithmeticException" : Cond) ∈ gT := gT_of (List.mem_append_right _ (List.mem_of_getElem? (i := 508) (by decide +kernel))) (by decide +kernel)
theorem klw_36 : (.methodLink RL 54 yX4_share : Cond) ∈ gT := gT_of (List.mem_append_right _ (List.mem_of_getElem? (i := 509) (by decide +kernel))) (by decide +kernel)
theorem klw_37 : (.instanceMethod yX4_share : Cond) ∈ gT := gT_of (List.mem_append_right _ (List.mem_of_getElem? (i := 510) (by decide +kernel))) (by decide +kernel)
theorem klw_38 : (.selects RX4 yX4_share yX4_share : Cond) ∈ gT := gT_of (List.mem_append_right _ (List.mem_of_getElem? (i := 511) (by decide +kernel))) (by decide +kernel)
theorem klw_39 : (.methodLink RL 59 yX4_agree : Cond) ∈ gT := gT_of (List.mem_append_right _ (List.mem_of_getElem? (i := 536) (by decide +kernel))) (by decide +kernel)
theorem klw_40 : (.instanceMethod yX4_agree : Cond) ∈ gT := gT_of (List.mem_append_right _ (List.mem_of_getElem? (i := 537) (by decide +kernel))) (by decide +kernel)
theorem klw_41 : (.selects RX4 yX4_agree yX4_agree : Cond) ∈ gT := gT_of (List.mem_append_right _ (List.mem_of_getElem? (i := 538) (by decide +kernel))) (by decide +kernel)
theorem klw_42 : (.methodLink RL 62 yX4_callAt : Cond) ∈ gT := gT_of (List.mem_append_right _ (List.mem_of_getElem? (i := 543) (by decide +kernel))) (by decide +kernel)
theorem klw_43 : (.instanceMethod yX4_callAt : Cond) ∈ gT := gT_of (List.mem_append_right _ (List.mem_of_getElem? (i := 544) (by decide +kernel))) (by decide +kernel)
theorem klw_44 : (.selects RX4 yX4_callAt yX4_callAt : Cond) ∈ gT := gT_of (List.mem_append_right _ (List.mem_of_getElem? (i := 545) (by decide +kernel))) (by decide +kernel)
theorem klw_45 : (.methodLink RL 65 yX4_eventAt : Cond) ∈ gT := gT_of (List.mem_append_right _ (List.mem_of_getElem? (i := 550) (by decide +kernel))) (by decide +kernel)
theorem klw_46 : (.instanceMethod yX4_eventAt : Cond) ∈ gT := gT_of (List.mem_append_right _ (List.mem_of_getElem? (i := 551) (by decide +kernel))) (by decide +kernel)
theorem klw_47 : (.selects RX4 yX4_eventAt yX4_eventAt : Cond) ∈ gT := gT_of (List.mem_append_right _ (List.mem_of_getElem? (i := 552) (by decide +kernel))) (by decide +kernel)
theorem klw_48 : (.methodLink RL 68 yX4_member : Cond) ∈ gT := gT_of (List.mem_append_right _ (List.mem_of_getElem? (i := 574) (by decide +kernel))) (by decide +kernel)
theorem klw_49 : (.instanceMethod yX4_member : Cond) ∈ gT := gT_of (List.mem_append_right _ (List.mem_of_getElem? (i := 575) (by decide +kernel))) (by decide +kernel)
theorem klw_50 : (.selects RX4 yX4_member yX4_member : Cond) ∈ gT := gT_of (List.mem_append_right _ (List.mem_of_getElem? (i := 576) (by decide +kernel))) (by decide +kernel)
theorem klw_51 : (.methodLink RL 71 yX4_count : Cond) ∈ gT := gT_of (List.mem_append_right _ (List.mem_of_getElem? (i := 585) (by decide +kernel))) (by decide +kernel)
theorem klw_52 : (.instanceMethod yX4_count : Cond) ∈ gT := gT_of (List.mem_append_right _ (List.mem_of_getElem? (i := 586) (by decide +kernel))) (by decide +kernel)
theorem klw_53 : (.selects RX4 yX4_count yX4_count : Cond) ∈ gT := gT_of (List.mem_append_right _ (List.mem_of_getElem? (i := 587) (by decide +kernel))) (by decide +kernel)
theorem klw_54 : (.methodLink RL 78 yL_rule : Cond) ∈ gT := gT_of (List.mem_append_right _ (List.mem_of_getElem? (i := 169) (by decide +kernel))) (by decide +kernel)
theorem klw_55 : (.static yL_rule : Cond) ∈ gT := gT_of (List.mem_append_right _ (List.mem_of_getElem? (i := 170) (by decide +kernel))) (by decide +kernel)
theorem klw_56 : (.initialized RL : Cond) ∈ gT := gT_of (List.mem_append_right _ (List.mem_of_getElem? (i := 0) (by decide +kernel))) (by decide +kernel)
theorem klw_57 : (.methodLink RL 83 yX6_rule : Cond) ∈ gT := gT_of (List.mem_append_right _ (List.mem_of_getElem? (i := 680) (by decide +kernel))) (by decide +kernel)
theorem klw_58 : (.instanceMethod yX6_rule : Cond) ∈ gT := gT_of (List.mem_append_right _ (List.mem_of_getElem? (i := 681) (by decide +kernel))) (by decide +kernel)
theorem klw_59 : (.selects RX6 yX6_rule yX6_rule : Cond) ∈ gT := gT_of (List.mem_append_right _ (List.mem_of_getElem? (i := 682) (by decide +kernel))) (by decide +kernel)
theorem klw_60 : (.initialized RX6 : Cond) ∈ gT := gT_of (List.mem_append_right _ (List.mem_of_getElem? (i := 7) (by decide +kernel))) (by decide +kernel)
theorem klw_61 : (.methodLink RL 84 yX6_thrown : Cond) ∈ gT := gT_of (List.mem_append_right _ (List.mem_of_getElem? (i := 676) (by decide +kernel))) (by decide +kernel)
theorem klw_62 : (.instanceMethod yX6_thrown : Cond) ∈ gT := gT_of (List.mem_append_right _ (List.mem_of_getElem? (i := 677) (by decide +kernel))) (by decide +kernel)
theorem klw_63 : (.selects RX6 yX6_thrown yX6_thrown : Cond) ∈ gT := gT_of (List.mem_append_right _ (List.mem_of_getElem? (i := 678) (by decide +kernel))) (by decide +kernel)
theorem klw_64 : (.methodLink RL 88 yL_weight : Cond) ∈ gT := gT_of (List.mem_append_right _ (List.mem_of_getElem? (i := 274) (by decide +kernel))) (by decide +kernel)
theorem klw_65 : (.static yL_weight : Cond) ∈ gT := gT_of (List.mem_append_right _ (List.mem_of_getElem? (i := 275) (by decide +kernel))) (by decide +kernel)
theorem klw_66 : (.methodLink RL 91 yX6_weight : Cond) ∈ gT := gT_of (List.mem_append_right _ (List.mem_of_getElem? (i := 695) (by decide +kernel))) (by decide +kernel)
theorem klw_67 : (.instanceMethod yX6_weight : Cond) ∈ gT := gT_of (List.mem_append_right _ (List.mem_of_getElem? (i := 696) (by decide +kernel))) (by decide +kernel)
theorem klw_68 : (.selects RX6 yX6_weight yX6_weight : Cond) ∈ gT := gT_of (List.mem_append_right _ (List.mem_of_getElem? (i := 697) (by decide +kernel))) (by decide +kernel)
theorem klw_69 : (.methodLink RL 92 yL_point : Cond) ∈ gT := gT_of (List.mem_append_right _ (List.mem_of_getElem? (i := 281) (by decide +kernel))) (by decide +kernel)
theorem klw_70 : (.static yL_point : Cond) ∈ gT := gT_of (List.mem_append_right _ (List.mem_of_getElem? (i := 282) (by decide +kernel))) (by decide +kernel)
theorem klw_71 : (.methodLink RL 95 yX6_point : Cond) ∈ gT := gT_of (List.mem_append_right _ (List.mem_of_getElem? (i := 699) (by decide +kernel))) (by decide +kernel)
theorem klw_72 : (.instanceMethod yX6_point : Cond) ∈ gT := gT_of (List.mem_append_right _ (List.mem_of_getElem? (i := 700) (by decide +kernel))) (by decide +kernel)
theorem klw_73 : (.selects RX6 yX6_point yX6_point : Cond) ∈ gT := gT_of (List.mem_append_right _ (List.mem_of_getElem? (i := 701) (by decide +kernel))) (by decide +kernel)
theorem klw_74 : (.methodLink RL 96 yL_call : Cond) ∈ gT := gT_of (List.mem_append_right _ (List.mem_of_getElem? (i := 313) (by decide +kernel))) (by decide +kernel)
theorem klw_75 : (.static yL_call : Cond) ∈ gT := gT_of (List.mem_append_right _ (List.mem_of_getElem? (i := 314) (by decide +kernel))) (by decide +kernel)
theorem klw_76 : (.methodLink RL 99 yX6_call : Cond) ∈ gT := gT_of (List.mem_append_right _ (List.mem_of_getElem? (i := 710) (by decide +kernel))) (by decide +kernel)
theorem klw_77 : (.instanceMethod yX6_call : Cond) ∈ gT := gT_of (List.mem_append_right _ (List.mem_of_getElem? (i := 711) (by decide +kernel))) (by decide +kernel)
theorem klw_78 : (.selects RX6 yX6_call yX6_call : Cond) ∈ gT := gT_of (List.mem_append_right _ (List.mem_of_getElem? (i := 712) (by decide +kernel))) (by decide +kernel)
theorem klw_79 : (.methodLink RL 100 yL_reasonFor : Cond) ∈ gT := gT_of (List.mem_append_right _ (List.mem_of_getElem? (i := 421) (by decide +kernel))) (by decide +kernel)
theorem klw_80 : (.static yL_reasonFor : Cond) ∈ gT := gT_of (List.mem_append_right _ (List.mem_of_getElem? (i := 422) (by decide +kernel))) (by decide +kernel)
theorem klw_81 : (.methodLink RL 102 yX6_reasonFor : Cond) ∈ gT := gT_of (List.mem_append_right _ (List.mem_of_getElem? (i := 781) (by decide +kernel))) (by decide +kernel)
theorem klw_82 : (.instanceMethod yX6_reasonFor : Cond) ∈ gT := gT_of (List.mem_append_right _ (List.mem_of_getElem? (i := 782) (by decide +kernel))) (by decide +kernel)
theorem klw_83 : (.selects RX6 yX6_reasonFor yX6_reasonFor : Cond) ∈ gT := gT_of (List.mem_append_right _ (List.mem_of_getElem? (i := 783) (by decide +kernel))) (by decide +kernel)
theorem klw_84 : (.methodLink RL 103 yL_mark : Cond) ∈ gT := gT_of (List.mem_append_right _ (List.mem_of_getElem? (i := 428) (by decide +kernel))) (by decide +kernel)
theorem klw_85 : (.static yL_mark : Cond) ∈ gT := gT_of (List.mem_append_right _ (List.mem_of_getElem? (i := 429) (by decide +kernel))) (by decide +kernel)
theorem klw_86 : (.methodLink RL 106 yX6_mark : Cond) ∈ gT := gT_of (List.mem_append_right _ (List.mem_of_getElem? (i := 785) (by decide +kernel))) (by decide +kernel)
theorem klw_87 : (.instanceMethod yX6_mark : Cond) ∈ gT := gT_of (List.mem_append_right _ (List.mem_of_getElem? (i := 786) (by decide +kernel))) (by decide +kernel)
theorem klw_88 : (.selects RX6 yX6_mark yX6_mark : Cond) ∈ gT := gT_of (List.mem_append_right _ (List.mem_of_getElem? (i := 787) (by decide +kernel))) (by decide +kernel)
theorem klw_89 : (.methodLink RL 107 yL_split : Cond) ∈ gT := gT_of (List.mem_append_right _ (List.mem_of_getElem? (i := 435) (by decide +kernel))) (by decide +kernel)
theorem klw_90 : (.static yL_split : Cond) ∈ gT := gT_of (List.mem_append_right _ (List.mem_of_getElem? (i := 436) (by decide +kernel))) (by decide +kernel)
theorem klw_91 : (.methodLink RL 110 yX6_split : Cond) ∈ gT := gT_of (List.mem_append_right _ (List.mem_of_getElem? (i := 793) (by decide +kernel))) (by decide +kernel)
theorem klw_92 : (.instanceMethod yX6_split : Cond) ∈ gT := gT_of (List.mem_append_right _ (List.mem_of_getElem? (i := 794) (by decide +kernel))) (by decide +kernel)
theorem klw_93 : (.selects RX6 yX6_split yX6_split : Cond) ∈ gT := gT_of (List.mem_append_right _ (List.mem_of_getElem? (i := 795) (by decide +kernel))) (by decide +kernel)
theorem klw_94 : (.methodLink RL 111 yL_merge : Cond) ∈ gT := gT_of (List.mem_append_right _ (List.mem_of_getElem? (i := 470) (by decide +kernel))) (by decide +kernel)
theorem klw_95 : (.static yL_merge : Cond) ∈ gT := gT_of (List.mem_append_right _ (List.mem_of_getElem? (i := 471) (by decide +kernel))) (by decide +kernel)
theorem klw_96 : (.methodLink RL 113 yX6_merge : Cond) ∈ gT := gT_of (List.mem_append_right _ (List.mem_of_getElem? (i := 797) (by decide +kernel))) (by decide +kernel)
theorem klw_97 : (.instanceMethod yX6_merge : Cond) ∈ gT := gT_of (List.mem_append_right _ (List.mem_of_getElem? (i := 798) (by decide +kernel))) (by decide +kernel)
theorem klw_98 : (.selects RX6 yX6_merge yX6_merge : Cond) ∈ gT := gT_of (List.mem_append_right _ (List.mem_of_getElem? (i := 799) (by decide +kernel))) (by decide +kernel)
theorem klw_99 : (.methodLink RL 114 yL_watch : Cond) ∈ gT := gT_of (List.mem_append_right _ (List.mem_of_getElem? (i := 485) (by decide +kernel))) (by decide +kernel)
theorem klw_100 : (.static yL_watch : Cond) ∈ gT := gT_of (List.mem_append_right _ (List.mem_of_getElem? (i := 486) (by decide +kernel))) (by decide +kernel)
theorem klw_101 : (.methodLink RL 117 yX6_watch : Cond) ∈ gT := gT_of (List.mem_append_right _ (List.mem_of_getElem? (i := 809) (by decide +kernel))) (by decide +kernel)
theorem klw_102 : (.instanceMethod yX6_watch : Cond) ∈ gT := gT_of (List.mem_append_right _ (List.mem_of_getElem? (i := 810) (by decide +kernel))) (by decide +kernel)
theorem klw_103 : (.selects RX6 yX6_watch yX6_watch : Cond) ∈ gT := gT_of (List.mem_append_right _ (List.mem_of_getElem? (i := 811) (by decide +kernel))) (by decide +kernel)
theorem klw_104 : (.methodLink RL 118 yL_state : Cond) ∈ gT := gT_of (List.mem_append_right _ (List.mem_of_getElem? (i := 498) (by decide +kernel))) (by decide +kernel)
theorem klw_105 : (.static yL_state : Cond) ∈ gT := gT_of (List.mem_append_right _ (List.mem_of_getElem? (i := 499) (by decide +kernel))) (by decide +kernel)
theorem klw_106 : (.methodLink RL 120 yX6_state : Cond) ∈ gT := gT_of (List.mem_append_right _ (List.mem_of_getElem? (i := 813) (by decide +kernel))) (by decide +kernel)
theorem klw_107 : (.instanceMethod yX6_state : Cond) ∈ gT := gT_of (List.mem_append_right _ (List.mem_of_getElem? (i := 814) (by decide +kernel))) (by decide +kernel)
theorem klw_108 : (.selects RX6 yX6_state yX6_state : Cond) ∈ gT := gT_of (List.mem_append_right _ (List.mem_of_getElem? (i := 815) (by decide +kernel))) (by decide +kernel)
theorem klw_109 : (.methodLink RL 121 yL_share : Cond) ∈ gT := gT_of (List.mem_append_right _ (List.mem_of_getElem? (i := 505) (by decide +kernel))) (by decide +kernel)
theorem klw_110 : (.static yL_share : Cond) ∈ gT := gT_of (List.mem_append_right _ (List.mem_of_getElem? (i := 506) (by decide +kernel))) (by decide +kernel)
theorem klw_111 : (.methodLink RL 123 yX6_share : Cond) ∈ gT := gT_of (List.mem_append_right _ (List.mem_of_getElem? (i := 817) (by decide +kernel))) (by decide +kernel)
theorem klw_112 : (.instanceMethod yX6_share : Cond) ∈ gT := gT_of (List.mem_append_right _ (List.mem_of_getElem? (i := 818) (by decide +kernel))) (by decide +kernel)
theorem klw_113 : (.selects RX6 yX6_share yX6_share : Cond) ∈ gT := gT_of (List.mem_append_right _ (List.mem_of_getElem? (i := 819) (by decide +kernel))) (by decide +kernel)
theorem klw_114 : (.methodLink RL 124 yL_agree : Cond) ∈ gT := gT_of (List.mem_append_right _ (List.mem_of_getElem? (i := 533) (by decide +kernel))) (by decide +kernel)
theorem klw_115 : (.static yL_agree : Cond) ∈ gT := gT_of (List.mem_append_right _ (List.mem_of_getElem? (i := 534) (by decide +kernel))) (by decide +kernel)
theorem klw_116 : (.methodLink RL 126 yX6_agree : Cond) ∈ gT := gT_of (List.mem_append_right _ (List.mem_of_getElem? (i := 821) (by decide +kernel))) (by decide +kernel)
theorem klw_117 : (.instanceMethod yX6_agree : Cond) ∈ gT := gT_of (List.mem_append_right _ (List.mem_of_getElem? (i := 822) (by decide +kernel))) (by decide +kernel)
theorem klw_118 : (.selects RX6 yX6_agree yX6_agree : Cond) ∈ gT := gT_of (List.mem_append_right _ (List.mem_of_getElem? (i := 823) (by decide +kernel))) (by decide +kernel)
theorem klw_119 : (.methodLink RL 127 yL_callAt : Cond) ∈ gT := gT_of (List.mem_append_right _ (List.mem_of_getElem? (i := 540) (by decide +kernel))) (by decide +kernel)
theorem klw_120 : (.static yL_callAt : Cond) ∈ gT := gT_of (List.mem_append_right _ (List.mem_of_getElem? (i := 541) (by decide +kernel))) (by decide +kernel)
theorem klw_121 : (.methodLink RL 129 yX6_callAt : Cond) ∈ gT := gT_of (List.mem_append_right _ (List.mem_of_getElem? (i := 825) (by decide +kernel))) (by decide +kernel)
theorem klw_122 : (.instanceMethod yX6_callAt : Cond) ∈ gT := gT_of (List.mem_append_right _ (List.mem_of_getElem? (i := 826) (by decide +kernel))) (by decide +kernel)
theorem klw_123 : (.selects RX6 yX6_callAt yX6_callAt : Cond) ∈ gT := gT_of (List.mem_append_right _ (List.mem_of_getElem? (i := 827) (by decide +kernel))) (by decide +kernel)
theorem klw_124 : (.methodLink RL 130 yL_eventAt : Cond) ∈ gT := gT_of (List.mem_append_right _ (List.mem_of_getElem? (i := 547) (by decide +kernel))) (by decide +kernel)
theorem klw_125 : (.static yL_eventAt : Cond) ∈ gT := gT_of (List.mem_append_right _ (List.mem_of_getElem? (i := 548) (by decide +kernel))) (by decide +kernel)
theorem klw_126 : (.methodLink RL 132 yX6_eventAt : Cond) ∈ gT := gT_of (List.mem_append_right _ (List.mem_of_getElem? (i := 829) (by decide +kernel))) (by decide +kernel)
theorem klw_127 : (.instanceMethod yX6_eventAt : Cond) ∈ gT := gT_of (List.mem_append_right _ (List.mem_of_getElem? (i := 830) (by decide +kernel))) (by decide +kernel)
theorem klw_128 : (.selects RX6 yX6_eventAt yX6_eventAt : Cond) ∈ gT := gT_of (List.mem_append_right _ (List.mem_of_getElem? (i := 831) (by decide +kernel))) (by decide +kernel)
theorem klw_129 : (.methodLink RL 133 yL_member : Cond) ∈ gT := gT_of (List.mem_append_right _ (List.mem_of_getElem? (i := 571) (by decide +kernel))) (by decide +kernel)
theorem klw_130 : (.static yL_member : Cond) ∈ gT := gT_of (List.mem_append_right _ (List.mem_of_getElem? (i := 572) (by decide +kernel))) (by decide +kernel)
theorem klw_131 : (.methodLink RL 135 yX6_member : Cond) ∈ gT := gT_of (List.mem_append_right _ (List.mem_of_getElem? (i := 845) (by decide +kernel))) (by decide +kernel)
theorem klw_132 : (.instanceMethod yX6_member : Cond) ∈ gT := gT_of (List.mem_append_right _ (List.mem_of_getElem? (i := 846) (by decide +kernel))) (by decide +kernel)
theorem klw_133 : (.selects RX6 yX6_member yX6_member : Cond) ∈ gT := gT_of (List.mem_append_right _ (List.mem_of_getElem? (i := 847) (by decide +kernel))) (by decide +kernel)
theorem klw_134 : (.methodLink RL 136 yL_count : Cond) ∈ gT := gT_of (List.mem_append_right _ (List.mem_of_getElem? (i := 582) (by decide +kernel))) (by decide +kernel)
theorem klw_135 : (.static yL_count : Cond) ∈ gT := gT_of (List.mem_append_right _ (List.mem_of_getElem? (i := 583) (by decide +kernel))) (by decide +kernel)
theorem klw_136 : (.methodLink RL 138 yX6_count : Cond) ∈ gT := gT_of (List.mem_append_right _ (List.mem_of_getElem? (i := 849) (by decide +kernel))) (by decide +kernel)
theorem klw_137 : (.instanceMethod yX6_count : Cond) ∈ gT := gT_of (List.mem_append_right _ (List.mem_of_getElem? (i := 850) (by decide +kernel))) (by decide +kernel)
theorem klw_138 : (.selects RX6 yX6_count yX6_count : Cond) ∈ gT := gT_of (List.mem_append_right _ (List.mem_of_getElem? (i := 851) (by decide +kernel))) (by decide +kernel)
def rmL_rule : Room := { frames := 8, cells := 5, slots := 30, locals := 127 }
abbrev wxL_rule : List Cond := .codeWith yL_rule cL_rule 7 (some .int) [(0, 11, 14, 13), (0, 11, 18, 15)] :: gT
theorem wxL_rule_in : (.codeWith yL_rule cL_rule 7 (some .int) [(0, 11, 14, 13), (0, 11, 18, 15)] : Cond) ∈ gT := gT_of (List.mem_append_right _ (List.mem_of_getElem? (i := 171) (by decide +kernel))) (by decide +kernel)
theorem glw_7 : GoodIn gT (wsV RL 7 RX4 yX4_rule wxX4_rule) := gT_V klw_2 klw_3 klw_4 klw_5 wxX4_rule_in
def rmL_weight : Room := { frames := 8, cells := 2, slots := 12, locals := 125 }
abbrev wxL_weight : List Cond := .codeWith yL_weight cL_weight 5 (some .int) [(0, 7, 10, 13), (0, 7, 14, 15)] :: gT
theorem wxL_weight_in : (.codeWith yL_weight cL_weight 5 (some .int) [(0, 7, 10, 13), (0, 7, 14, 15)] : Cond) ∈ gT := gT_of (List.mem_append_right _ (List.mem_of_getElem? (i := 276) (by decide +kernel))) (by decide +kernel)
theorem glw_17 : GoodIn gT (wsV RL 17 RX4 yX4_weight wxX4_weight) := gT_V klw_6 klw_7 klw_8 klw_5 wxX4_weight_in
def rmL_point : Room := { frames := 8, cells := 3, slots := 18, locals := 124 }
abbrev wxL_point : List Cond := .codeWith yL_point cL_point 5 (some .int) [(0, 10, 13, 13), (0, 10, 17, 15), (0, 10, 21, 25)] :: gT
theorem wxL_point_in : (.codeWith yL_point cL_point 5 (some .int) [(0, 10, 13, 13), (0, 10, 17, 15), (0, 10, 21, 25)] : Cond) ∈ gT := gT_of (List.mem_append_right _ (List.mem_of_getElem? (i := 283) (by decide +kernel))) (by decide +kernel)
theorem glw_21 : GoodIn gT (wsV RL 21 RX4 yX4_point wxX4_point) := gT_V klw_10 klw_11 klw_12 klw_5 wxX4_point_in
def rmL_call : Room := { frames := 9, cells := 7, slots := 42, locals := 202 }
abbrev wxL_call : List Cond := .codeWith yL_call cL_call 9 (some .int) [(0, 18, 21, 13), (0, 18, 25, 15), (0, 18, 29, 25)] :: gT
theorem wxL_call_in : (.codeWith yL_call cL_call 9 (some .int) [(0, 18, 21, 13), (0, 18, 25, 15), (0, 18, 29, 25)] : Cond) ∈ gT := gT_of (List.mem_append_right _ (List.mem_of_getElem? (i := 315) (by decide +kernel))) (by decide +kernel)
theorem glw_27 : GoodIn gT (wsV RL 27 RX4 yX4_call wxX4_call) := gT_V klw_13 klw_14 klw_15 klw_5 wxX4_call_in
def rmL_reasonFor : Room := { frames := 9, cells := 5, slots := 30, locals := 201 }
abbrev wxL_reasonFor : List Cond := .codeWith yL_reasonFor cL_reasonFor 9 (some .int) [(0, 18, 21, 13), (0, 18, 25, 15)] :: gT
theorem wxL_reasonFor_in : (.codeWith yL_reasonFor cL_reasonFor 9 (some .int) [(0, 18, 21, 13), (0, 18, 25, 15)] : Cond) ∈ gT := gT_of (List.mem_append_right _ (List.mem_of_getElem? (i := 423) (by decide +kernel))) (by decide +kernel)
theorem glw_31 : GoodIn gT (wsV RL 31 RX4 yX4_reasonFor wxX4_reasonFor) := gT_V klw_16 klw_17 klw_18 klw_5 wxX4_reasonFor_in
def rmL_mark : Room := { frames := 8, cells := 2, slots := 12, locals := 124 }
abbrev wxL_mark : List Cond := .codeWith yL_mark cL_mark 4 (some .int) [(0, 6, 9, 13), (0, 6, 12, 15)] :: gT
theorem wxL_mark_in : (.codeWith yL_mark cL_mark 4 (some .int) [(0, 6, 9, 13), (0, 6, 12, 15)] : Cond) ∈ gT := gT_of (List.mem_append_right _ (List.mem_of_getElem? (i := 430) (by decide +kernel))) (by decide +kernel)
theorem glw_34 : GoodIn gT (wsV RL 34 RX4 yX4_mark wxX4_mark) := gT_V klw_19 klw_20 klw_21 klw_5 wxX4_mark_in
def rmL_split : Room := { frames := 8, cells := 3, slots := 18, locals := 124 }
abbrev wxL_split : List Cond := .codeWith yL_split cL_split 4 (some .int) [(0, 9, 12, 13), (0, 9, 15, 42), (0, 9, 18, 25)] :: gT
theorem wxL_split_in : (.codeWith yL_split cL_split 4 (some .int) [(0, 9, 12, 13), (0, 9, 15, 42), (0, 9, 18, 25)] : Cond) ∈ gT := gT_of (List.mem_append_right _ (List.mem_of_getElem? (i := 437) (by decide +kernel))) (by decide +kernel)
theorem glw_38 : GoodIn gT (wsV RL 38 RX4 yX4_split wxX4_split) := gT_V klw_23 klw_24 klw_25 klw_5 wxX4_split_in
def rmL_merge : Room := { frames := 8, cells := 2, slots := 12, locals := 126 }
abbrev wxL_merge : List Cond := .codeWith yL_merge cL_merge 5 (some .int) [(0, 10, 13, 13), (0, 10, 17, 42)] :: gT
theorem wxL_merge_in : (.codeWith yL_merge cL_merge 5 (some .int) [(0, 10, 13, 13), (0, 10, 17, 42)] : Cond) ∈ gT := gT_of (List.mem_append_right _ (List.mem_of_getElem? (i := 472) (by decide +kernel))) (by decide +kernel)
theorem glw_44 : GoodIn gT (wsV RL 44 RX4 yX4_merge wxX4_merge) := gT_V klw_26 klw_27 klw_28 klw_5 wxX4_merge_in
def rmL_watch : Room := { frames := 8, cells := 3, slots := 18, locals := 126 }
abbrev wxL_watch : List Cond := .codeWith yL_watch cL_watch 6 (some .int) [(0, 9, 12, 13), (0, 9, 16, 15), (0, 9, 20, 42)] :: gT
theorem wxL_watch_in : (.codeWith yL_watch cL_watch 6 (some .int) [(0, 9, 12, 13), (0, 9, 16, 15), (0, 9, 20, 42)] : Cond) ∈ gT := gT_of (List.mem_append_right _ (List.mem_of_getElem? (i := 487) (by decide +kernel))) (by decide +kernel)
theorem glw_47 : GoodIn gT (wsV RL 47 RX4 yX4_watch wxX4_watch) := gT_V klw_29 klw_30 klw_31 klw_5 wxX4_watch_in
def rmL_state : Room := { frames := 8, cells := 3, slots := 18, locals := 124 }
abbrev wxL_state : List Cond := .codeWith yL_state cL_state 4 (some .int) [(0, 6, 9, 13), (0, 6, 12, 15), (0, 6, 15, 42)] :: gT
theorem wxL_state_in : (.codeWith yL_state cL_state 4 (some .int) [(0, 6, 9, 13), (0, 6, 12, 15), (0, 6, 15, 42)] : Cond) ∈ gT := gT_of (List.mem_append_right _ (List.mem_of_getElem? (i := 500) (by decide +kernel))) (by decide +kernel)
theorem glw_51 : GoodIn gT (wsV RL 51 RX4 yX4_state wxX4_state) := gT_V klw_32 klw_33 klw_34 klw_5 wxX4_state_in
def rmL_share : Room := { frames := 9, cells := 2, slots := 12, locals := 148 }
abbrev wxL_share : List Cond := .codeWith yL_share cL_share 5 (some .int) [(0, 10, 13, 13), (0, 10, 17, 57)] :: gT
theorem wxL_share_in : (.codeWith yL_share cL_share 5 (some .int) [(0, 10, 13, 13), (0, 10, 17, 57)] : Cond) ∈ gT := gT_of (List.mem_append_right _ (List.mem_of_getElem? (i := 507) (by decide +kernel))) (by decide +kernel)
theorem glw_54 : GoodIn gT (wsV RL 54 RX4 yX4_share wxX4_share) := gT_V klw_36 klw_37 klw_38 klw_5 wxX4_share_in
def rmL_agree : Room := { frames := 9, cells := 1, slots := 6, locals := 146 }
abbrev wxL_agree : List Cond := .codeWith yL_agree cL_agree 5 (some .int) [(0, 10, 13, 13)] :: gT
theorem wxL_agree_in : (.codeWith yL_agree cL_agree 5 (some .int) [(0, 10, 13, 13)] : Cond) ∈ gT := gT_of (List.mem_append_right _ (List.mem_of_getElem? (i := 535) (by decide +kernel))) (by decide +kernel)
theorem glw_59 : GoodIn gT (wsV RL 59 RX4 yX4_agree wxX4_agree) := gT_V klw_39 klw_40 klw_41 klw_5 wxX4_agree_in
def rmL_callAt : Room := { frames := 8, cells := 1, slots := 6, locals := 124 }
abbrev wxL_callAt : List Cond := .codeWith yL_callAt cL_callAt 5 (some .int) [(0, 10, 13, 13)] :: gT
theorem wxL_callAt_in : (.codeWith yL_callAt cL_callAt 5 (some .int) [(0, 10, 13, 13)] : Cond) ∈ gT := gT_of (List.mem_append_right _ (List.mem_of_getElem? (i := 542) (by decide +kernel))) (by decide +kernel)
theorem glw_62 : GoodIn gT (wsV RL 62 RX4 yX4_callAt wxX4_callAt) := gT_V klw_42 klw_43 klw_44 klw_5 wxX4_callAt_in
def rmL_eventAt : Room := { frames := 8, cells := 1, slots := 6, locals := 124 }
abbrev wxL_eventAt : List Cond := .codeWith yL_eventAt cL_eventAt 5 (some .int) [(0, 10, 13, 13)] :: gT
theorem wxL_eventAt_in : (.codeWith yL_eventAt cL_eventAt 5 (some .int) [(0, 10, 13, 13)] : Cond) ∈ gT := gT_of (List.mem_append_right _ (List.mem_of_getElem? (i := 549) (by decide +kernel))) (by decide +kernel)
theorem glw_65 : GoodIn gT (wsV RL 65 RX4 yX4_eventAt wxX4_eventAt) := gT_V klw_45 klw_46 klw_47 klw_5 wxX4_eventAt_in
def rmL_member : Room := { frames := 8, cells := 2, slots := 12, locals := 125 }
abbrev wxL_member : List Cond := .codeWith yL_member cL_member 5 (some .int) [(0, 10, 13, 13), (0, 10, 17, 15)] :: gT
theorem wxL_member_in : (.codeWith yL_member cL_member 5 (some .int) [(0, 10, 13, 13), (0, 10, 17, 15)] : Cond) ∈ gT := gT_of (List.mem_append_right _ (List.mem_of_getElem? (i := 573) (by decide +kernel))) (by decide +kernel)
theorem glw_68 : GoodIn gT (wsV RL 68 RX4 yX4_member wxX4_member) := gT_V klw_48 klw_49 klw_50 klw_5 wxX4_member_in
def rmL_count : Room := { frames := 8, cells := 1, slots := 6, locals := 123 }
abbrev wxL_count : List Cond := .codeWith yL_count cL_count 4 (some .int) [(0, 9, 12, 13)] :: gT
theorem wxL_count_in : (.codeWith yL_count cL_count 4 (some .int) [(0, 9, 12, 13)] : Cond) ∈ gT := gT_of (List.mem_append_right _ (List.mem_of_getElem? (i := 584) (by decide +kernel))) (by decide +kernel)
theorem glw_71 : GoodIn gT (wsV RL 71 RX4 yX4_count wxX4_count) := gT_V klw_51 klw_52 klw_53 klw_5 wxX4_count_in
theorem glaw_78 : GoodIn gT (va_wsS RL 78 yL_rule wxL_rule) := gT_vS klw_54 klw_55 klw_56 wxL_rule_in
theorem glaw_83 : GoodIn gT (wsV RL 83 RX6 yX6_rule wxX6_rule) := gT_V klw_57 klw_58 klw_59 klw_60 wxX6_rule_in
theorem glaw_84 : GoodIn gT (wsV RL 84 RX6 yX6_thrown wxX6_thrown) := gT_V klw_61 klw_62 klw_63 klw_60 wxX6_thrown_in
theorem glaw_88 : GoodIn gT (va_wsS RL 88 yL_weight wxL_weight) := gT_vS klw_64 klw_65 klw_56 wxL_weight_in
theorem glaw_91 : GoodIn gT (wsV RL 91 RX6 yX6_weight wxX6_weight) := gT_V klw_66 klw_67 klw_68 klw_60 wxX6_weight_in
theorem glaw_92 : GoodIn gT (va_wsS RL 92 yL_point wxL_point) := gT_vS klw_69 klw_70 klw_56 wxL_point_in
theorem glaw_95 : GoodIn gT (wsV RL 95 RX6 yX6_point wxX6_point) := gT_V klw_71 klw_72 klw_73 klw_60 wxX6_point_in
theorem glaw_96 : GoodIn gT (va_wsS RL 96 yL_call wxL_call) := gT_vS klw_74 klw_75 klw_56 wxL_call_in
theorem glaw_99 : GoodIn gT (wsV RL 99 RX6 yX6_call wxX6_call) := gT_V klw_76 klw_77 klw_78 klw_60 wxX6_call_in
theorem glaw_100 : GoodIn gT (va_wsS RL 100 yL_reasonFor wxL_reasonFor) := gT_vS klw_79 klw_80 klw_56 wxL_reasonFor_in
theorem glaw_102 : GoodIn gT (wsV RL 102 RX6 yX6_reasonFor wxX6_reasonFor) := gT_V klw_81 klw_82 klw_83 klw_60 wxX6_reasonFor_in
theorem glaw_103 : GoodIn gT (va_wsS RL 103 yL_mark wxL_mark) := gT_vS klw_84 klw_85 klw_56 wxL_mark_in
theorem glaw_106 : GoodIn gT (wsV RL 106 RX6 yX6_mark wxX6_mark) := gT_V klw_86 klw_87 klw_88 klw_60 wxX6_mark_in
theorem glaw_107 : GoodIn gT (va_wsS RL 107 yL_split wxL_split) := gT_vS klw_89 klw_90 klw_56 wxL_split_in
theorem glaw_110 : GoodIn gT (wsV RL 110 RX6 yX6_split wxX6_split) := gT_V klw_91 klw_92 klw_93 klw_60 wxX6_split_in
theorem glaw_111 : GoodIn gT (va_wsS RL 111 yL_merge wxL_merge) := gT_vS klw_94 klw_95 klw_56 wxL_merge_in
theorem glaw_113 : GoodIn gT (wsV RL 113 RX6 yX6_merge wxX6_merge) := gT_V klw_96 klw_97 klw_98 klw_60 wxX6_merge_in
theorem glaw_114 : GoodIn gT (va_wsS RL 114 yL_watch wxL_watch) := gT_vS klw_99 klw_100 klw_56 wxL_watch_in
theorem glaw_117 : GoodIn gT (wsV RL 117 RX6 yX6_watch wxX6_watch) := gT_V klw_101 klw_102 klw_103 klw_60 wxX6_watch_in
theorem glaw_118 : GoodIn gT (va_wsS RL 118 yL_state wxL_state) := gT_vS klw_104 klw_105 klw_56 wxL_state_in
theorem glaw_120 : GoodIn gT (wsV RL 120 RX6 yX6_state wxX6_state) := gT_V klw_106 klw_107 klw_108 klw_60 wxX6_state_in
theorem glaw_121 : GoodIn gT (va_wsS RL 121 yL_share wxL_share) := gT_vS klw_109 klw_110 klw_56 wxL_share_in
theorem glaw_123 : GoodIn gT (wsV RL 123 RX6 yX6_share wxX6_share) := gT_V klw_111 klw_112 klw_113 klw_60 wxX6_share_in
theorem glaw_124 : GoodIn gT (va_wsS RL 124 yL_agree wxL_agree) := gT_vS klw_114 klw_115 klw_56 wxL_agree_in
theorem glaw_126 : GoodIn gT (wsV RL 126 RX6 yX6_agree wxX6_agree) := gT_V klw_116 klw_117 klw_118 klw_60 wxX6_agree_in
theorem glaw_127 : GoodIn gT (va_wsS RL 127 yL_callAt wxL_callAt) := gT_vS klw_119 klw_120 klw_56 wxL_callAt_in
theorem glaw_129 : GoodIn gT (wsV RL 129 RX6 yX6_callAt wxX6_callAt) := gT_V klw_121 klw_122 klw_123 klw_60 wxX6_callAt_in
theorem glaw_130 : GoodIn gT (va_wsS RL 130 yL_eventAt wxL_eventAt) := gT_vS klw_124 klw_125 klw_56 wxL_eventAt_in
theorem glaw_132 : GoodIn gT (wsV RL 132 RX6 yX6_eventAt wxX6_eventAt) := gT_V klw_126 klw_127 klw_128 klw_60 wxX6_eventAt_in
theorem glaw_133 : GoodIn gT (va_wsS RL 133 yL_member wxL_member) := gT_vS klw_129 klw_130 klw_56 wxL_member_in
theorem glaw_135 : GoodIn gT (wsV RL 135 RX6 yX6_member wxX6_member) := gT_V klw_131 klw_132 klw_133 klw_60 wxX6_member_in
theorem glaw_136 : GoodIn gT (va_wsS RL 136 yL_count wxL_count) := gT_vS klw_134 klw_135 klw_56 wxL_count_in
theorem glaw_138 : GoodIn gT (wsV RL 138 RX6 yX6_count wxX6_count) := gT_V klw_136 klw_137 klw_138 klw_60 wxX6_count_in
