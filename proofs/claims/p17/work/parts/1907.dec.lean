theorem dX6_share_105 : decode cX6_share 105 = .ok (.ifCond .eq 5, 3) := by decide +kernel
theorem dX6_share_108 : decode cX6_share 108 = .ok (.iconst 0, 1) := by decide +kernel
theorem dX6_share_109 : decode cX6_share 109 = .ok (.ireturn, 1) := by decide +kernel
theorem dX6_share_110 : decode cX6_share 110 = .ok (.sipush 1000, 3) := by decide +kernel
theorem dX6_share_113 : decode cX6_share 113 = .ok (.aload_n 0, 1) := by decide +kernel
theorem dX6_share_114 : decode cX6_share 114 = .ok (.aload_n 0, 1) := by decide +kernel
theorem dX6_share_115 : decode cX6_share 115 = .ok (.getfield 40, 3) := by decide +kernel
theorem dX6_share_118 : decode cX6_share 118 = .ok (.iload_n 1, 1) := by decide +kernel
theorem dX6_share_119 : decode cX6_share 119 = .ok (.iaload, 1) := by decide +kernel
theorem dX6_share_120 : decode cX6_share 120 = .ok (.aload_n 0, 1) := by decide +kernel
theorem dX6_share_121 : decode cX6_share 121 = .ok (.getfield 40, 3) := by decide +kernel
theorem dX6_share_124 : decode cX6_share 124 = .ok (.iload_n 2, 1) := by decide +kernel
theorem dX6_share_125 : decode cX6_share 125 = .ok (.iaload, 1) := by decide +kernel
theorem dX6_share_126 : decode cX6_share 126 = .ok (.iand, 1) := by decide +kernel
theorem dX6_share_127 : decode cX6_share 127 = .ok (.iload 4, 2) := by decide +kernel
theorem dX6_share_129 : decode cX6_share 129 = .ok (.invokevirtual 100, 3) := by decide +kernel
theorem dX6_share_132 : decode cX6_share 132 = .ok (.imul, 1) := by decide +kernel
theorem dX6_share_133 : decode cX6_share 133 = .ok (.iload 5, 2) := by decide +kernel
theorem dX6_share_135 : decode cX6_share 135 = .ok (.idiv, 1) := by decide +kernel
theorem dX6_share_136 : decode cX6_share 136 = .ok (.ireturn, 1) := by decide +kernel
theorem dX6_agree_0 : decode cX6_agree 0 = .ok (.aload_n 0, 1) := by decide +kernel
theorem dX6_agree_1 : decode cX6_agree 1 = .ok (.iload_n 1, 1) := by decide +kernel
theorem dX6_agree_2 : decode cX6_agree 2 = .ok (.invokevirtual 167, 3) := by decide +kernel
theorem dX6_agree_5 : decode cX6_agree 5 = .ok (.ifCond .eq 20, 3) := by decide +kernel
theorem dX6_agree_8 : decode cX6_agree 8 = .ok (.aload_n 0, 1) := by decide +kernel
theorem dX6_agree_9 : decode cX6_agree 9 = .ok (.iload_n 2, 1) := by decide +kernel
theorem dX6_agree_10 : decode cX6_agree 10 = .ok (.invokevirtual 167, 3) := by decide +kernel
theorem dX6_agree_13 : decode cX6_agree 13 = .ok (.ifCond .eq 12, 3) := by decide +kernel
theorem dX6_agree_16 : decode cX6_agree 16 = .ok (.iload_n 1, 1) := by decide +kernel
theorem dX6_agree_17 : decode cX6_agree 17 = .ok (.iload_n 2, 1) := by decide +kernel
theorem dX6_agree_18 : decode cX6_agree 18 = .ok (.if_icmp .eq 7, 3) := by decide +kernel
theorem dX6_agree_21 : decode cX6_agree 21 = .ok (.iconst 1, 1) := by decide +kernel
theorem dX6_agree_22 : decode cX6_agree 22 = .ok (.goto 4, 3) := by decide +kernel
theorem dX6_agree_25 : decode cX6_agree 25 = .ok (.iconst 0, 1) := by decide +kernel
theorem dX6_agree_26 : decode cX6_agree 26 = .ok (.istore_n 3, 1) := by decide +kernel
theorem dX6_agree_27 : decode cX6_agree 27 = .ok (.aload_n 0, 1) := by decide +kernel
theorem dX6_agree_28 : decode cX6_agree 28 = .ok (.iload_n 3, 1) := by decide +kernel
theorem dX6_agree_29 : decode cX6_agree 29 = .ok (.ifCond .ne 7, 3) := by decide +kernel
theorem dX6_agree_32 : decode cX6_agree 32 = .ok (.iconst 1, 1) := by decide +kernel
theorem dX6_agree_33 : decode cX6_agree 33 = .ok (.goto 4, 3) := by decide +kernel
theorem dX6_agree_36 : decode cX6_agree 36 = .ok (.iconst 0, 1) := by decide +kernel
theorem dX6_agree_37 : decode cX6_agree 37 = .ok (.iconst 0, 1) := by decide +kernel
theorem dX6_agree_38 : decode cX6_agree 38 = .ok (.iconst 0, 1) := by decide +kernel
theorem dX6_agree_39 : decode cX6_agree 39 = .ok (.invokevirtual 90, 3) := by decide +kernel
theorem dX6_agree_42 : decode cX6_agree 42 = .ok (.ifCond .eq 5, 3) := by decide +kernel
theorem dX6_agree_45 : decode cX6_agree 45 = .ok (.iconst 0, 1) := by decide +kernel
theorem dX6_agree_46 : decode cX6_agree 46 = .ok (.ireturn, 1) := by decide +kernel
theorem dX6_agree_47 : decode cX6_agree 47 = .ok (.iload_n 1, 1) := by decide +kernel
theorem dX6_agree_48 : decode cX6_agree 48 = .ok (.iload_n 2, 1) := by decide +kernel
theorem dX6_agree_49 : decode cX6_agree 49 = .ok (.if_icmp .ge 7, 3) := by decide +kernel
theorem dX6_agree_52 : decode cX6_agree 52 = .ok (.iload_n 1, 1) := by decide +kernel
theorem dX6_agree_53 : decode cX6_agree 53 = .ok (.goto 4, 3) := by decide +kernel
theorem dX6_agree_56 : decode cX6_agree 56 = .ok (.iload_n 2, 1) := by decide +kernel
theorem dX6_agree_57 : decode cX6_agree 57 = .ok (.istore 4, 2) := by decide +kernel
theorem dX6_agree_59 : decode cX6_agree 59 = .ok (.iload_n 1, 1) := by decide +kernel
theorem dX6_agree_60 : decode cX6_agree 60 = .ok (.iload_n 2, 1) := by decide +kernel
theorem dX6_agree_61 : decode cX6_agree 61 = .ok (.iadd, 1) := by decide +kernel
theorem dX6_agree_62 : decode cX6_agree 62 = .ok (.iload 4, 2) := by decide +kernel
theorem dX6_agree_64 : decode cX6_agree 64 = .ok (.isub, 1) := by decide +kernel
theorem dX6_agree_65 : decode cX6_agree 65 = .ok (.istore 5, 2) := by decide +kernel
theorem dX6_agree_67 : decode cX6_agree 67 = .ok (.aload_n 0, 1) := by decide +kernel
theorem dX6_agree_68 : decode cX6_agree 68 = .ok (.iload 4, 2) := by decide +kernel
theorem dX6_agree_70 : decode cX6_agree 70 = .ok (.aload_n 0, 1) := by decide +kernel
theorem dX6_agree_71 : decode cX6_agree 71 = .ok (.getfield 34, 3) := by decide +kernel
theorem dX6_agree_74 : decode cX6_agree 74 = .ok (.iload 5, 2) := by decide +kernel
theorem dX6_agree_76 : decode cX6_agree 76 = .ok (.iaload, 1) := by decide +kernel
theorem dX6_agree_77 : decode cX6_agree 77 = .ok (.aload_n 0, 1) := by decide +kernel
theorem dX6_agree_78 : decode cX6_agree 78 = .ok (.getfield 37, 3) := by decide +kernel
theorem dX6_agree_81 : decode cX6_agree 81 = .ok (.iload 5, 2) := by decide +kernel
theorem dX6_agree_83 : decode cX6_agree 83 = .ok (.iaload, 1) := by decide +kernel
theorem dX6_agree_84 : decode cX6_agree 84 = .ok (.aload_n 0, 1) := by decide +kernel
theorem dX6_agree_85 : decode cX6_agree 85 = .ok (.getfield 40, 3) := by decide +kernel
theorem dX6_agree_88 : decode cX6_agree 88 = .ok (.iload 5, 2) := by decide +kernel
theorem dX6_agree_90 : decode cX6_agree 90 = .ok (.iaload, 1) := by decide +kernel
theorem dX6_agree_91 : decode cX6_agree 91 = .ok (.aload_n 0, 1) := by decide +kernel
theorem dX6_agree_92 : decode cX6_agree 92 = .ok (.getfield 43, 3) := by decide +kernel
theorem dX6_agree_95 : decode cX6_agree 95 = .ok (.iload 5, 2) := by decide +kernel
theorem dX6_agree_97 : decode cX6_agree 97 = .ok (.iaload, 1) := by decide +kernel
theorem dX6_agree_98 : decode cX6_agree 98 = .ok (.invokevirtual 131, 3) := by decide +kernel
theorem dX6_agree_101 : decode cX6_agree 101 = .ok (.ireturn, 1) := by decide +kernel
theorem dX6_callAt_0 : decode cX6_callAt 0 = .ok (.aload_n 0, 1) := by decide +kernel
theorem dX6_callAt_1 : decode cX6_callAt 1 = .ok (.aload_n 0, 1) := by decide +kernel
theorem dX6_callAt_2 : decode cX6_callAt 2 = .ok (.iload_n 1, 1) := by decide +kernel
theorem dX6_callAt_3 : decode cX6_callAt 3 = .ok (.invokevirtual 167, 3) := by decide +kernel
theorem dX6_callAt_6 : decode cX6_callAt 6 = .ok (.ifCond .eq 12, 3) := by decide +kernel
theorem dX6_callAt_9 : decode cX6_callAt 9 = .ok (.iload_n 2, 1) := by decide +kernel
theorem dX6_callAt_10 : decode cX6_callAt 10 = .ok (.iconst 0, 1) := by decide +kernel
theorem dX6_callAt_11 : decode cX6_callAt 11 = .ok (.iconst 4, 1) := by decide +kernel
theorem dX6_callAt_12 : decode cX6_callAt 12 = .ok (.invokestatic 74, 3) := by decide +kernel
theorem dX6_callAt_15 : decode cX6_callAt 15 = .ok (.ifCond .ne 7, 3) := by decide +kernel
theorem dX6_callAt_18 : decode cX6_callAt 18 = .ok (.iconst 1, 1) := by decide +kernel
theorem dX6_callAt_19 : decode cX6_callAt 19 = .ok (.goto 4, 3) := by decide +kernel
theorem dX6_callAt_22 : decode cX6_callAt 22 = .ok (.iconst 0, 1) := by decide +kernel
theorem dX6_callAt_23 : decode cX6_callAt 23 = .ok (.iconst 0, 1) := by decide +kernel
theorem dX6_callAt_24 : decode cX6_callAt 24 = .ok (.iconst 0, 1) := by decide +kernel
theorem dX6_callAt_25 : decode cX6_callAt 25 = .ok (.invokevirtual 90, 3) := by decide +kernel
theorem dX6_callAt_28 : decode cX6_callAt 28 = .ok (.ifCond .eq 5, 3) := by decide +kernel
theorem dX6_callAt_31 : decode cX6_callAt 31 = .ok (.iconst 0, 1) := by decide +kernel
theorem dX6_callAt_32 : decode cX6_callAt 32 = .ok (.ireturn, 1) := by decide +kernel
theorem dX6_callAt_33 : decode cX6_callAt 33 = .ok (.iload_n 2, 1) := by decide +kernel
theorem dX6_callAt_34 : decode cX6_callAt 34 = .ok (.ifCond .ne 12, 3) := by decide +kernel
theorem dX6_callAt_37 : decode cX6_callAt 37 = .ok (.aload_n 0, 1) := by decide +kernel
theorem dX6_callAt_38 : decode cX6_callAt 38 = .ok (.getfield 46, 3) := by decide +kernel
theorem dX6_callAt_41 : decode cX6_callAt 41 = .ok (.iload_n 1, 1) := by decide +kernel
theorem dX6_callAt_42 : decode cX6_callAt 42 = .ok (.iaload, 1) := by decide +kernel
theorem dX6_callAt_43 : decode cX6_callAt 43 = .ok (.goto 51, 3) := by decide +kernel
theorem dX6_callAt_46 : decode cX6_callAt 46 = .ok (.iload_n 2, 1) := by decide +kernel
theorem dX6_callAt_47 : decode cX6_callAt 47 = .ok (.iconst 1, 1) := by decide +kernel
theorem dX6_callAt_48 : decode cX6_callAt 48 = .ok (.if_icmp .ne 12, 3) := by decide +kernel
theorem dX6_callAt_51 : decode cX6_callAt 51 = .ok (.aload_n 0, 1) := by decide +kernel
theorem dX6_callAt_52 : decode cX6_callAt 52 = .ok (.getfield 49, 3) := by decide +kernel
theorem dX6_callAt_55 : decode cX6_callAt 55 = .ok (.iload_n 1, 1) := by decide +kernel
theorem dX6_callAt_56 : decode cX6_callAt 56 = .ok (.iaload, 1) := by decide +kernel
theorem dX6_callAt_57 : decode cX6_callAt 57 = .ok (.goto 37, 3) := by decide +kernel
theorem dX6_callAt_60 : decode cX6_callAt 60 = .ok (.iload_n 2, 1) := by decide +kernel
theorem dX6_callAt_61 : decode cX6_callAt 61 = .ok (.iconst 2, 1) := by decide +kernel
theorem dX6_callAt_62 : decode cX6_callAt 62 = .ok (.if_icmp .ne 12, 3) := by decide +kernel
theorem dX6_callAt_65 : decode cX6_callAt 65 = .ok (.aload_n 0, 1) := by decide +kernel
theorem dX6_callAt_66 : decode cX6_callAt 66 = .ok (.getfield 52, 3) := by decide +kernel
theorem dX6_callAt_69 : decode cX6_callAt 69 = .ok (.iload_n 1, 1) := by decide +kernel
theorem dX6_callAt_70 : decode cX6_callAt 70 = .ok (.iaload, 1) := by decide +kernel
theorem dX6_callAt_71 : decode cX6_callAt 71 = .ok (.goto 23, 3) := by decide +kernel
theorem dX6_callAt_74 : decode cX6_callAt 74 = .ok (.iload_n 2, 1) := by decide +kernel
theorem dX6_callAt_75 : decode cX6_callAt 75 = .ok (.iconst 3, 1) := by decide +kernel
theorem dX6_callAt_76 : decode cX6_callAt 76 = .ok (.if_icmp .ne 12, 3) := by decide +kernel
theorem dX6_callAt_79 : decode cX6_callAt 79 = .ok (.aload_n 0, 1) := by decide +kernel
theorem dX6_callAt_80 : decode cX6_callAt 80 = .ok (.getfield 34, 3) := by decide +kernel
theorem dX6_callAt_83 : decode cX6_callAt 83 = .ok (.iload_n 1, 1) := by decide +kernel
theorem dX6_callAt_84 : decode cX6_callAt 84 = .ok (.iaload, 1) := by decide +kernel
theorem dX6_callAt_85 : decode cX6_callAt 85 = .ok (.goto 9, 3) := by decide +kernel
theorem dX6_callAt_88 : decode cX6_callAt 88 = .ok (.aload_n 0, 1) := by decide +kernel
theorem dX6_callAt_89 : decode cX6_callAt 89 = .ok (.getfield 55, 3) := by decide +kernel
theorem dX6_callAt_92 : decode cX6_callAt 92 = .ok (.iload_n 1, 1) := by decide +kernel
theorem dX6_callAt_93 : decode cX6_callAt 93 = .ok (.iaload, 1) := by decide +kernel
theorem dX6_callAt_94 : decode cX6_callAt 94 = .ok (.ireturn, 1) := by decide +kernel
theorem dX6_weightOf_0 : decode cX6_weightOf 0 = .ok (.iconst 0, 1) := by decide +kernel
theorem dX6_weightOf_1 : decode cX6_weightOf 1 = .ok (.istore_n 2, 1) := by decide +kernel
theorem dX6_weightOf_2 : decode cX6_weightOf 2 = .ok (.iconst 0, 1) := by decide +kernel
theorem dX6_weightOf_3 : decode cX6_weightOf 3 = .ok (.istore_n 3, 1) := by decide +kernel
theorem dX6_weightOf_4 : decode cX6_weightOf 4 = .ok (.iload_n 3, 1) := by decide +kernel
theorem dX6_weightOf_5 : decode cX6_weightOf 5 = .ok (.aload_n 0, 1) := by decide +kernel
theorem dX6_weightOf_6 : decode cX6_weightOf 6 = .ok (.getfield 78, 3) := by decide +kernel
theorem dX6_weightOf_9 : decode cX6_weightOf 9 = .ok (.if_icmp .ge 63, 3) := by decide +kernel
theorem dX6_weightOf_12 : decode cX6_weightOf 12 = .ok (.aload_n 0, 1) := by decide +kernel
theorem dX6_weightOf_13 : decode cX6_weightOf 13 = .ok (.getfield 46, 3) := by decide +kernel
theorem dX6_weightOf_16 : decode cX6_weightOf 16 = .ok (.iload_n 3, 1) := by decide +kernel
theorem dX6_weightOf_17 : decode cX6_weightOf 17 = .ok (.iaload, 1) := by decide +kernel
theorem dX6_weightOf_18 : decode cX6_weightOf 18 = .ok (.iload_n 1, 1) := by decide +kernel
theorem dX6_weightOf_19 : decode cX6_weightOf 19 = .ok (.if_icmp .ne 47, 3) := by decide +kernel
theorem dX6_weightOf_22 : decode cX6_weightOf 22 = .ok (.aload_n 0, 1) := by decide +kernel
theorem dX6_weightOf_23 : decode cX6_weightOf 23 = .ok (.iload_n 3, 1) := by decide +kernel
theorem dX6_weightOf_24 : decode cX6_weightOf 24 = .ok (.invokevirtual 121, 3) := by decide +kernel
theorem dX6_weightOf_27 : decode cX6_weightOf 27 = .ok (.ifCond .ne 39, 3) := by decide +kernel
theorem dX6_weightOf_30 : decode cX6_weightOf 30 = .ok (.iload_n 2, 1) := by decide +kernel
theorem dX6_weightOf_31 : decode cX6_weightOf 31 = .ok (.iconst 4, 1) := by decide +kernel
theorem dX6_weightOf_32 : decode cX6_weightOf 32 = .ok (.aload_n 0, 1) := by decide +kernel
theorem dX6_weightOf_33 : decode cX6_weightOf 33 = .ok (.getfield 52, 3) := by decide +kernel
theorem dX6_weightOf_36 : decode cX6_weightOf 36 = .ok (.iload_n 3, 1) := by decide +kernel
theorem dX6_weightOf_37 : decode cX6_weightOf 37 = .ok (.iaload, 1) := by decide +kernel
theorem dX6_weightOf_38 : decode cX6_weightOf 38 = .ok (.iconst 1, 1) := by decide +kernel
theorem dX6_weightOf_39 : decode cX6_weightOf 39 = .ok (.iand, 1) := by decide +kernel
theorem dX6_weightOf_40 : decode cX6_weightOf 40 = .ok (.ifCond .eq 7, 3) := by decide +kernel
theorem dX6_weightOf_43 : decode cX6_weightOf 43 = .ok (.iconst 2, 1) := by decide +kernel
theorem dX6_weightOf_44 : decode cX6_weightOf 44 = .ok (.goto 4, 3) := by decide +kernel
theorem dX6_weightOf_47 : decode cX6_weightOf 47 = .ok (.iconst 0, 1) := by decide +kernel
theorem dX6_weightOf_48 : decode cX6_weightOf 48 = .ok (.isub, 1) := by decide +kernel
theorem dX6_weightOf_49 : decode cX6_weightOf 49 = .ok (.aload_n 0, 1) := by decide +kernel
theorem dX6_weightOf_50 : decode cX6_weightOf 50 = .ok (.getfield 37, 3) := by decide +kernel
theorem dX6_weightOf_53 : decode cX6_weightOf 53 = .ok (.iload_n 3, 1) := by decide +kernel
theorem dX6_weightOf_54 : decode cX6_weightOf 54 = .ok (.iaload, 1) := by decide +kernel
theorem dX6_weightOf_55 : decode cX6_weightOf 55 = .ok (.ifCond .lt 7, 3) := by decide +kernel
theorem dX6_weightOf_58 : decode cX6_weightOf 58 = .ok (.iconst 1, 1) := by decide +kernel
theorem dX6_weightOf_59 : decode cX6_weightOf 59 = .ok (.goto 4, 3) := by decide +kernel
theorem dX6_weightOf_62 : decode cX6_weightOf 62 = .ok (.iconst 0, 1) := by decide +kernel
theorem dX6_weightOf_63 : decode cX6_weightOf 63 = .ok (.iadd, 1) := by decide +kernel
theorem dX6_weightOf_64 : decode cX6_weightOf 64 = .ok (.iadd, 1) := by decide +kernel
theorem dX6_weightOf_65 : decode cX6_weightOf 65 = .ok (.istore_n 2, 1) := by decide +kernel
theorem dX6_weightOf_66 : decode cX6_weightOf 66 = .ok (.iinc 3 1, 3) := by decide +kernel
theorem dX6_weightOf_69 : decode cX6_weightOf 69 = .ok (.goto (-65), 3) := by decide +kernel
theorem dX6_weightOf_72 : decode cX6_weightOf 72 = .ok (.iload_n 2, 1) := by decide +kernel
theorem dX6_weightOf_73 : decode cX6_weightOf 73 = .ok (.ireturn, 1) := by decide +kernel
theorem dX6_placeOf_0 : decode cX6_placeOf 0 = .ok (.iconst 0, 1) := by decide +kernel
theorem dX6_placeOf_1 : decode cX6_placeOf 1 = .ok (.istore_n 2, 1) := by decide +kernel
theorem dX6_placeOf_2 : decode cX6_placeOf 2 = .ok (.iload_n 2, 1) := by decide +kernel
theorem dX6_placeOf_3 : decode cX6_placeOf 3 = .ok (.aload_n 0, 1) := by decide +kernel
theorem dX6_placeOf_4 : decode cX6_placeOf 4 = .ok (.getfield 78, 3) := by decide +kernel
theorem dX6_placeOf_7 : decode cX6_placeOf 7 = .ok (.if_icmp .ge 43, 3) := by decide +kernel
theorem dX6_placeOf_10 : decode cX6_placeOf 10 = .ok (.aload_n 0, 1) := by decide +kernel
theorem dX6_placeOf_11 : decode cX6_placeOf 11 = .ok (.getfield 46, 3) := by decide +kernel
theorem dX6_placeOf_14 : decode cX6_placeOf 14 = .ok (.iload_n 2, 1) := by decide +kernel
theorem dX6_placeOf_15 : decode cX6_placeOf 15 = .ok (.iaload, 1) := by decide +kernel
theorem dX6_placeOf_16 : decode cX6_placeOf 16 = .ok (.iload_n 1, 1) := by decide +kernel
theorem dX6_placeOf_17 : decode cX6_placeOf 17 = .ok (.if_icmp .ne 27, 3) := by decide +kernel
theorem dX6_placeOf_20 : decode cX6_placeOf 20 = .ok (.aload_n 0, 1) := by decide +kernel
theorem dX6_placeOf_21 : decode cX6_placeOf 21 = .ok (.iload_n 2, 1) := by decide +kernel
theorem dX6_placeOf_22 : decode cX6_placeOf 22 = .ok (.invokevirtual 121, 3) := by decide +kernel
theorem dX6_placeOf_25 : decode cX6_placeOf 25 = .ok (.ifCond .ne 19, 3) := by decide +kernel
theorem dX6_placeOf_28 : decode cX6_placeOf 28 = .ok (.aload_n 0, 1) := by decide +kernel
theorem dX6_placeOf_29 : decode cX6_placeOf 29 = .ok (.getfield 37, 3) := by decide +kernel
theorem dX6_placeOf_32 : decode cX6_placeOf 32 = .ok (.iload_n 2, 1) := by decide +kernel
theorem dX6_placeOf_33 : decode cX6_placeOf 33 = .ok (.iaload, 1) := by decide +kernel
theorem dX6_placeOf_34 : decode cX6_placeOf 34 = .ok (.ifCond .lt 10, 3) := by decide +kernel
theorem dX6_placeOf_37 : decode cX6_placeOf 37 = .ok (.aload_n 0, 1) := by decide +kernel
theorem dX6_placeOf_38 : decode cX6_placeOf 38 = .ok (.getfield 37, 3) := by decide +kernel
theorem dX6_placeOf_41 : decode cX6_placeOf 41 = .ok (.iload_n 2, 1) := by decide +kernel
theorem dX6_placeOf_42 : decode cX6_placeOf 42 = .ok (.iaload, 1) := by decide +kernel
theorem dX6_placeOf_43 : decode cX6_placeOf 43 = .ok (.ireturn, 1) := by decide +kernel
theorem dX6_placeOf_44 : decode cX6_placeOf 44 = .ok (.iinc 2 1, 3) := by decide +kernel
theorem dX6_placeOf_47 : decode cX6_placeOf 47 = .ok (.goto (-45), 3) := by decide +kernel
theorem dX6_placeOf_50 : decode cX6_placeOf 50 = .ok (.iconst (-1), 1) := by decide +kernel
theorem dX6_placeOf_51 : decode cX6_placeOf 51 = .ok (.ireturn, 1) := by decide +kernel
theorem dX6_latestOf_0 : decode cX6_latestOf 0 = .ok (.iconst (-1), 1) := by decide +kernel
theorem dX6_latestOf_1 : decode cX6_latestOf 1 = .ok (.istore_n 2, 1) := by decide +kernel
theorem dX6_latestOf_2 : decode cX6_latestOf 2 = .ok (.iconst 0, 1) := by decide +kernel
theorem dX6_latestOf_3 : decode cX6_latestOf 3 = .ok (.istore_n 3, 1) := by decide +kernel
theorem dX6_latestOf_4 : decode cX6_latestOf 4 = .ok (.iload_n 3, 1) := by decide +kernel
theorem dX6_latestOf_5 : decode cX6_latestOf 5 = .ok (.aload_n 0, 1) := by decide +kernel
theorem dX6_latestOf_6 : decode cX6_latestOf 6 = .ok (.getfield 78, 3) := by decide +kernel
theorem dX6_latestOf_9 : decode cX6_latestOf 9 = .ok (.if_icmp .ge 30, 3) := by decide +kernel
theorem dX6_latestOf_12 : decode cX6_latestOf 12 = .ok (.aload_n 0, 1) := by decide +kernel
theorem dX6_latestOf_13 : decode cX6_latestOf 13 = .ok (.getfield 46, 3) := by decide +kernel
theorem dX6_latestOf_16 : decode cX6_latestOf 16 = .ok (.iload_n 3, 1) := by decide +kernel
theorem dX6_latestOf_17 : decode cX6_latestOf 17 = .ok (.iaload, 1) := by decide +kernel
theorem dX6_latestOf_18 : decode cX6_latestOf 18 = .ok (.iload_n 1, 1) := by decide +kernel
theorem dX6_latestOf_19 : decode cX6_latestOf 19 = .ok (.if_icmp .ne 12, 3) := by decide +kernel
theorem dX6_latestOf_22 : decode cX6_latestOf 22 = .ok (.aload_n 0, 1) := by decide +kernel
theorem dX6_latestOf_23 : decode cX6_latestOf 23 = .ok (.getfield 43, 3) := by decide +kernel
theorem dX6_latestOf_26 : decode cX6_latestOf 26 = .ok (.iload_n 3, 1) := by decide +kernel
theorem dX6_latestOf_27 : decode cX6_latestOf 27 = .ok (.iaload, 1) := by decide +kernel
theorem dX6_latestOf_28 : decode cX6_latestOf 28 = .ok (.goto 4, 3) := by decide +kernel
theorem dX6_latestOf_31 : decode cX6_latestOf 31 = .ok (.iload_n 2, 1) := by decide +kernel
theorem dX6_latestOf_32 : decode cX6_latestOf 32 = .ok (.istore_n 2, 1) := by decide +kernel
theorem dX6_latestOf_33 : decode cX6_latestOf 33 = .ok (.iinc 3 1, 3) := by decide +kernel
theorem dX6_latestOf_36 : decode cX6_latestOf 36 = .ok (.goto (-32), 3) := by decide +kernel
theorem dX6_latestOf_39 : decode cX6_latestOf 39 = .ok (.iload_n 2, 1) := by decide +kernel
theorem dX6_latestOf_40 : decode cX6_latestOf 40 = .ok (.ireturn, 1) := by decide +kernel
theorem dX6_eventAt_0 : decode cX6_eventAt 0 = .ok (.aload_n 0, 1) := by decide +kernel
theorem dX6_eventAt_1 : decode cX6_eventAt 1 = .ok (.aload_n 0, 1) := by decide +kernel
theorem dX6_eventAt_2 : decode cX6_eventAt 2 = .ok (.iload_n 1, 1) := by decide +kernel
theorem dX6_eventAt_3 : decode cX6_eventAt 3 = .ok (.invokevirtual 170, 3) := by decide +kernel
theorem dX6_eventAt_6 : decode cX6_eventAt 6 = .ok (.ifCond .eq 13, 3) := by decide +kernel
theorem dX6_eventAt_9 : decode cX6_eventAt 9 = .ok (.iload_n 2, 1) := by decide +kernel
theorem dX6_eventAt_10 : decode cX6_eventAt 10 = .ok (.iconst 0, 1) := by decide +kernel
theorem dX6_eventAt_11 : decode cX6_eventAt 11 = .ok (.bipush 6, 2) := by decide +kernel
theorem dX6_eventAt_13 : decode cX6_eventAt 13 = .ok (.invokestatic 74, 3) := by decide +kernel
theorem dX6_eventAt_16 : decode cX6_eventAt 16 = .ok (.ifCond .ne 7, 3) := by decide +kernel
theorem dX6_eventAt_19 : decode cX6_eventAt 19 = .ok (.iconst 1, 1) := by decide +kernel
theorem dX6_eventAt_20 : decode cX6_eventAt 20 = .ok (.goto 4, 3) := by decide +kernel
theorem dX6_eventAt_23 : decode cX6_eventAt 23 = .ok (.iconst 0, 1) := by decide +kernel
theorem dX6_eventAt_24 : decode cX6_eventAt 24 = .ok (.iconst 0, 1) := by decide +kernel
theorem dX6_eventAt_25 : decode cX6_eventAt 25 = .ok (.iconst 0, 1) := by decide +kernel
theorem dX6_eventAt_26 : decode cX6_eventAt 26 = .ok (.invokevirtual 90, 3) := by decide +kernel
theorem dX6_eventAt_29 : decode cX6_eventAt 29 = .ok (.ifCond .eq 5, 3) := by decide +kernel
theorem dX6_eventAt_32 : decode cX6_eventAt 32 = .ok (.iconst 0, 1) := by decide +kernel
theorem dX6_eventAt_33 : decode cX6_eventAt 33 = .ok (.ireturn, 1) := by decide +kernel
theorem dX6_eventAt_34 : decode cX6_eventAt 34 = .ok (.aload_n 0, 1) := by decide +kernel
theorem dX6_eventAt_35 : decode cX6_eventAt 35 = .ok (.iload_n 1, 1) := by decide +kernel
theorem dX6_eventAt_36 : decode cX6_eventAt 36 = .ok (.invokevirtual 124, 3) := by decide +kernel
theorem dX6_eventAt_39 : decode cX6_eventAt 39 = .ok (.istore_n 3, 1) := by decide +kernel
theorem dX6_eventAt_40 : decode cX6_eventAt 40 = .ok (.iload_n 2, 1) := by decide +kernel
theorem dX6_eventAt_41 : decode cX6_eventAt 41 = .ok (.tableswitch 81 0 5 #[39, 46, 52, 67, 73, 79], 39) := by decide +kernel
theorem dX6_eventAt_80 : decode cX6_eventAt 80 = .ok (.aload_n 0, 1) := by decide +kernel
theorem dX6_eventAt_81 : decode cX6_eventAt 81 = .ok (.getfield 58, 3) := by decide +kernel
theorem dX6_eventAt_84 : decode cX6_eventAt 84 = .ok (.iload_n 1, 1) := by decide +kernel
theorem dX6_eventAt_85 : decode cX6_eventAt 85 = .ok (.iaload, 1) := by decide +kernel
theorem dX6_eventAt_86 : decode cX6_eventAt 86 = .ok (.ireturn, 1) := by decide +kernel
theorem dX6_eventAt_87 : decode cX6_eventAt 87 = .ok (.aload_n 0, 1) := by decide +kernel
theorem dX6_eventAt_88 : decode cX6_eventAt 88 = .ok (.iload_n 1, 1) := by decide +kernel
theorem dX6_eventAt_89 : decode cX6_eventAt 89 = .ok (.invokevirtual 173, 3) := by decide +kernel
theorem dX6_eventAt_92 : decode cX6_eventAt 92 = .ok (.ireturn, 1) := by decide +kernel
theorem dX6_eventAt_93 : decode cX6_eventAt 93 = .ok (.iload_n 3, 1) := by decide +kernel
theorem dX6_eventAt_94 : decode cX6_eventAt 94 = .ok (.ifCond .ge 7, 3) := by decide +kernel
theorem dX6_eventAt_97 : decode cX6_eventAt 97 = .ok (.iconst (-1), 1) := by decide +kernel
theorem dX6_eventAt_98 : decode cX6_eventAt 98 = .ok (.goto 9, 3) := by decide +kernel
theorem dX6_eventAt_101 : decode cX6_eventAt 101 = .ok (.aload_n 0, 1) := by decide +kernel
theorem dX6_eventAt_102 : decode cX6_eventAt 102 = .ok (.getfield 34, 3) := by decide +kernel
theorem dX6_eventAt_105 : decode cX6_eventAt 105 = .ok (.iload_n 3, 1) := by decide +kernel
theorem dX6_eventAt_106 : decode cX6_eventAt 106 = .ok (.iaload, 1) := by decide +kernel
theorem dX6_eventAt_107 : decode cX6_eventAt 107 = .ok (.ireturn, 1) := by decide +kernel
theorem dX6_eventAt_108 : decode cX6_eventAt 108 = .ok (.aload_n 0, 1) := by decide +kernel
theorem dX6_eventAt_109 : decode cX6_eventAt 109 = .ok (.iload_n 1, 1) := by decide +kernel
theorem dX6_eventAt_110 : decode cX6_eventAt 110 = .ok (.invokevirtual 176, 3) := by decide +kernel
theorem dX6_eventAt_113 : decode cX6_eventAt 113 = .ok (.ireturn, 1) := by decide +kernel
theorem dX6_eventAt_114 : decode cX6_eventAt 114 = .ok (.aload_n 0, 1) := by decide +kernel
theorem dX6_eventAt_115 : decode cX6_eventAt 115 = .ok (.iload_n 1, 1) := by decide +kernel
theorem dX6_eventAt_116 : decode cX6_eventAt 116 = .ok (.invokevirtual 179, 3) := by decide +kernel
theorem dX6_eventAt_119 : decode cX6_eventAt 119 = .ok (.ireturn, 1) := by decide +kernel
theorem dX6_eventAt_120 : decode cX6_eventAt 120 = .ok (.iload_n 3, 1) := by decide +kernel
theorem dX6_eventAt_121 : decode cX6_eventAt 121 = .ok (.ireturn, 1) := by decide +kernel
theorem dX6_eventAt_122 : decode cX6_eventAt 122 = .ok (.aload_n 0, 1) := by decide +kernel
theorem dX6_eventAt_123 : decode cX6_eventAt 123 = .ok (.iload_n 1, 1) := by decide +kernel
theorem dX6_eventAt_124 : decode cX6_eventAt 124 = .ok (.invokevirtual 182, 3) := by decide +kernel
theorem dX6_eventAt_127 : decode cX6_eventAt 127 = .ok (.ireturn, 1) := by decide +kernel
theorem dX6_member_0 : decode cX6_member 0 = .ok (.aload_n 0, 1) := by decide +kernel
theorem dX6_member_1 : decode cX6_member 1 = .ok (.iload_n 1, 1) := by decide +kernel
theorem dX6_member_2 : decode cX6_member 2 = .ok (.invokevirtual 170, 3) := by decide +kernel
theorem dX6_member_5 : decode cX6_member 5 = .ok (.istore_n 3, 1) := by decide +kernel
theorem dX6_member_6 : decode cX6_member 6 = .ok (.aload_n 0, 1) := by decide +kernel
theorem dX6_member_7 : decode cX6_member 7 = .ok (.iload_n 3, 1) := by decide +kernel
theorem dX6_member_8 : decode cX6_member 8 = .ok (.ifCond .ne 7, 3) := by decide +kernel
theorem dX6_member_11 : decode cX6_member 11 = .ok (.iconst 1, 1) := by decide +kernel
theorem dX6_member_12 : decode cX6_member 12 = .ok (.goto 4, 3) := by decide +kernel
theorem dX6_member_15 : decode cX6_member 15 = .ok (.iconst 0, 1) := by decide +kernel
theorem dX6_member_16 : decode cX6_member 16 = .ok (.iload_n 3, 1) := by decide +kernel
theorem dX6_member_17 : decode cX6_member 17 = .ok (.ifCond .eq 22, 3) := by decide +kernel
theorem dX6_member_20 : decode cX6_member 20 = .ok (.iload_n 2, 1) := by decide +kernel
theorem dX6_member_21 : decode cX6_member 21 = .ok (.iconst 0, 1) := by decide +kernel
theorem dX6_member_22 : decode cX6_member 22 = .ok (.aload_n 0, 1) := by decide +kernel
theorem dX6_member_23 : decode cX6_member 23 = .ok (.iload_n 1, 1) := by decide +kernel
theorem dX6_member_24 : decode cX6_member 24 = .ok (.invokevirtual 173, 3) := by decide +kernel
theorem dX6_member_27 : decode cX6_member 27 = .ok (.iconst 1, 1) := by decide +kernel
theorem dX6_member_28 : decode cX6_member 28 = .ok (.isub, 1) := by decide +kernel
theorem dX6_member_29 : decode cX6_member 29 = .ok (.invokestatic 74, 3) := by decide +kernel
theorem dX6_member_32 : decode cX6_member 32 = .ok (.ifCond .ne 7, 3) := by decide +kernel
theorem dX6_member_35 : decode cX6_member 35 = .ok (.iconst 1, 1) := by decide +kernel
theorem dX6_member_36 : decode cX6_member 36 = .ok (.goto 4, 3) := by decide +kernel
theorem dX6_member_39 : decode cX6_member 39 = .ok (.iconst 0, 1) := by decide +kernel
theorem dX6_member_40 : decode cX6_member 40 = .ok (.iconst 0, 1) := by decide +kernel
theorem dX6_member_41 : decode cX6_member 41 = .ok (.invokevirtual 90, 3) := by decide +kernel
theorem dX6_member_44 : decode cX6_member 44 = .ok (.ifCond .eq 5, 3) := by decide +kernel
theorem dX6_member_47 : decode cX6_member 47 = .ok (.iconst 0, 1) := by decide +kernel
theorem dX6_member_48 : decode cX6_member 48 = .ok (.ireturn, 1) := by decide +kernel
theorem dX6_member_49 : decode cX6_member 49 = .ok (.iload_n 2, 1) := by decide +kernel
theorem dX6_member_50 : decode cX6_member 50 = .ok (.istore 4, 2) := by decide +kernel
theorem dX6_member_52 : decode cX6_member 52 = .ok (.iconst 0, 1) := by decide +kernel
theorem dX6_member_53 : decode cX6_member 53 = .ok (.istore 5, 2) := by decide +kernel
theorem dX6_member_55 : decode cX6_member 55 = .ok (.iload 5, 2) := by decide +kernel
theorem dX6_member_57 : decode cX6_member 57 = .ok (.aload_n 0, 1) := by decide +kernel
theorem dX6_member_58 : decode cX6_member 58 = .ok (.getfield 78, 3) := by decide +kernel
theorem dX6_member_61 : decode cX6_member 61 = .ok (.if_icmp .ge 49, 3) := by decide +kernel
theorem dX6_member_64 : decode cX6_member 64 = .ok (.aload_n 0, 1) := by decide +kernel
theorem dX6_member_65 : decode cX6_member 65 = .ok (.getfield 46, 3) := by decide +kernel
theorem dX6_member_68 : decode cX6_member 68 = .ok (.iload 5, 2) := by decide +kernel
theorem dX6_member_70 : decode cX6_member 70 = .ok (.iaload, 1) := by decide +kernel
theorem dX6_member_71 : decode cX6_member 71 = .ok (.iload_n 1, 1) := by decide +kernel
theorem dX6_member_72 : decode cX6_member 72 = .ok (.if_icmp .ne 11, 3) := by decide +kernel
theorem dX6_member_75 : decode cX6_member 75 = .ok (.iload 4, 2) := by decide +kernel
theorem dX6_member_77 : decode cX6_member 77 = .ok (.ifCond .ne 6, 3) := by decide +kernel
theorem dX6_member_80 : decode cX6_member 80 = .ok (.iload 5, 2) := by decide +kernel
theorem dX6_member_82 : decode cX6_member 82 = .ok (.ireturn, 1) := by decide +kernel
theorem dX6_member_83 : decode cX6_member 83 = .ok (.iload 4, 2) := by decide +kernel
theorem dX6_member_85 : decode cX6_member 85 = .ok (.aload_n 0, 1) := by decide +kernel
theorem dX6_member_86 : decode cX6_member 86 = .ok (.getfield 46, 3) := by decide +kernel
theorem dX6_member_89 : decode cX6_member 89 = .ok (.iload 5, 2) := by decide +kernel
theorem dX6_member_91 : decode cX6_member 91 = .ok (.iaload, 1) := by decide +kernel
theorem dX6_member_92 : decode cX6_member 92 = .ok (.iload_n 1, 1) := by decide +kernel
theorem dX6_member_93 : decode cX6_member 93 = .ok (.if_icmp .ne 7, 3) := by decide +kernel
theorem dX6_member_96 : decode cX6_member 96 = .ok (.iconst 1, 1) := by decide +kernel
theorem dX6_member_97 : decode cX6_member 97 = .ok (.goto 4, 3) := by decide +kernel
theorem dX6_member_100 : decode cX6_member 100 = .ok (.iconst 0, 1) := by decide +kernel
theorem dX6_member_101 : decode cX6_member 101 = .ok (.isub, 1) := by decide +kernel
theorem dX6_member_102 : decode cX6_member 102 = .ok (.istore 4, 2) := by decide +kernel
theorem dX6_member_104 : decode cX6_member 104 = .ok (.iinc 5 1, 3) := by decide +kernel
theorem dX6_member_107 : decode cX6_member 107 = .ok (.goto (-52), 3) := by decide +kernel
theorem dX6_member_110 : decode cX6_member 110 = .ok (.iconst 0, 1) := by decide +kernel
theorem dX6_member_111 : decode cX6_member 111 = .ok (.ireturn, 1) := by decide +kernel
theorem dX6_count_0 : decode cX6_count 0 = .ok (.aload_n 0, 1) := by decide +kernel
theorem dX6_count_1 : decode cX6_count 1 = .ok (.iload_n 1, 1) := by decide +kernel
theorem dX6_count_2 : decode cX6_count 2 = .ok (.iconst 0, 1) := by decide +kernel
theorem dX6_count_3 : decode cX6_count 3 = .ok (.iconst 3, 1) := by decide +kernel
theorem dX6_count_4 : decode cX6_count 4 = .ok (.invokestatic 74, 3) := by decide +kernel
theorem dX6_count_7 : decode cX6_count 7 = .ok (.ifCond .ne 7, 3) := by decide +kernel
theorem dX6_count_10 : decode cX6_count 10 = .ok (.iconst 1, 1) := by decide +kernel
theorem dX6_count_11 : decode cX6_count 11 = .ok (.goto 4, 3) := by decide +kernel
theorem dX6_count_14 : decode cX6_count 14 = .ok (.iconst 0, 1) := by decide +kernel
theorem dX6_count_15 : decode cX6_count 15 = .ok (.iconst 0, 1) := by decide +kernel
theorem dX6_count_16 : decode cX6_count 16 = .ok (.iconst 0, 1) := by decide +kernel
theorem dX6_count_17 : decode cX6_count 17 = .ok (.invokevirtual 90, 3) := by decide +kernel
theorem dX6_count_20 : decode cX6_count 20 = .ok (.ifCond .eq 5, 3) := by decide +kernel
theorem dX6_count_23 : decode cX6_count 23 = .ok (.iconst 0, 1) := by decide +kernel
theorem dX6_count_24 : decode cX6_count 24 = .ok (.ireturn, 1) := by decide +kernel
theorem dX6_count_25 : decode cX6_count 25 = .ok (.iload_n 1, 1) := by decide +kernel
theorem dX6_count_26 : decode cX6_count 26 = .ok (.iconst 2, 1) := by decide +kernel
theorem dX6_count_27 : decode cX6_count 27 = .ok (.if_icmp .ge 19, 3) := by decide +kernel
theorem dX6_count_30 : decode cX6_count 30 = .ok (.iload_n 1, 1) := by decide +kernel
theorem dX6_count_31 : decode cX6_count 31 = .ok (.ifCond .ne 10, 3) := by decide +kernel
theorem dX6_count_34 : decode cX6_count 34 = .ok (.aload_n 0, 1) := by decide +kernel
theorem dX6_count_35 : decode cX6_count 35 = .ok (.getfield 78, 3) := by decide +kernel
theorem dX6_count_38 : decode cX6_count 38 = .ok (.goto 7, 3) := by decide +kernel
theorem dX6_count_41 : decode cX6_count 41 = .ok (.aload_n 0, 1) := by decide +kernel
theorem dX6_count_42 : decode cX6_count 42 = .ok (.getfield 81, 3) := by decide +kernel
theorem dX6_count_45 : decode cX6_count 45 = .ok (.ireturn, 1) := by decide +kernel
theorem dX6_count_46 : decode cX6_count 46 = .ok (.iconst 0, 1) := by decide +kernel
theorem dX6_count_47 : decode cX6_count 47 = .ok (.istore_n 2, 1) := by decide +kernel
theorem dX6_count_48 : decode cX6_count 48 = .ok (.iconst 0, 1) := by decide +kernel
theorem dX6_count_49 : decode cX6_count 49 = .ok (.istore_n 3, 1) := by decide +kernel
theorem dX6_count_50 : decode cX6_count 50 = .ok (.iload_n 3, 1) := by decide +kernel
theorem dX6_count_51 : decode cX6_count 51 = .ok (.aload_n 0, 1) := by decide +kernel
theorem dX6_count_52 : decode cX6_count 52 = .ok (.getfield 81, 3) := by decide +kernel
theorem dX6_count_55 : decode cX6_count 55 = .ok (.if_icmp .ge 31, 3) := by decide +kernel
theorem dX6_count_58 : decode cX6_count 58 = .ok (.iload_n 1, 1) := by decide +kernel
theorem dX6_count_59 : decode cX6_count 59 = .ok (.iconst 2, 1) := by decide +kernel
theorem dX6_count_60 : decode cX6_count 60 = .ok (.if_icmp .ne 26, 3) := by decide +kernel
theorem dX6_count_63 : decode cX6_count 63 = .ok (.iload_n 2, 1) := by decide +kernel
theorem dX6_count_64 : decode cX6_count 64 = .ok (.aload_n 0, 1) := by decide +kernel
theorem dX6_count_65 : decode cX6_count 65 = .ok (.getfield 58, 3) := by decide +kernel
theorem dX6_count_68 : decode cX6_count 68 = .ok (.iload_n 3, 1) := by decide +kernel
theorem dX6_count_69 : decode cX6_count 69 = .ok (.iaload, 1) := by decide +kernel
theorem dX6_count_70 : decode cX6_count 70 = .ok (.ifCond .ne 7, 3) := by decide +kernel
theorem dX6_count_73 : decode cX6_count 73 = .ok (.iconst 1, 1) := by decide +kernel
theorem dX6_count_74 : decode cX6_count 74 = .ok (.goto 4, 3) := by decide +kernel
theorem dX6_count_77 : decode cX6_count 77 = .ok (.iconst 0, 1) := by decide +kernel
theorem dX6_count_78 : decode cX6_count 78 = .ok (.iadd, 1) := by decide +kernel
theorem dX6_count_79 : decode cX6_count 79 = .ok (.istore_n 2, 1) := by decide +kernel
theorem dX6_count_80 : decode cX6_count 80 = .ok (.iinc 3 1, 3) := by decide +kernel
theorem dX6_count_83 : decode cX6_count 83 = .ok (.goto (-33), 3) := by decide +kernel
theorem dX6_count_86 : decode cX6_count 86 = .ok (.iconst 0, 1) := by decide +kernel
theorem dX6_count_87 : decode cX6_count 87 = .ok (.istore_n 3, 1) := by decide +kernel
theorem dX6_count_88 : decode cX6_count 88 = .ok (.iload_n 3, 1) := by decide +kernel
theorem dX6_count_89 : decode cX6_count 89 = .ok (.aload_n 0, 1) := by decide +kernel
theorem dX6_count_90 : decode cX6_count 90 = .ok (.getfield 78, 3) := by decide +kernel
theorem dX6_count_93 : decode cX6_count 93 = .ok (.if_icmp .ge 30, 3) := by decide +kernel
theorem dX6_count_96 : decode cX6_count 96 = .ok (.iload_n 1, 1) := by decide +kernel
theorem dX6_count_97 : decode cX6_count 97 = .ok (.iconst 3, 1) := by decide +kernel
theorem dX6_count_98 : decode cX6_count 98 = .ok (.if_icmp .ne 25, 3) := by decide +kernel
theorem dX6_count_101 : decode cX6_count 101 = .ok (.iload_n 2, 1) := by decide +kernel
theorem dX6_count_102 : decode cX6_count 102 = .ok (.aload_n 0, 1) := by decide +kernel
theorem dX6_count_103 : decode cX6_count 103 = .ok (.iload_n 3, 1) := by decide +kernel
theorem dX6_count_104 : decode cX6_count 104 = .ok (.invokevirtual 121, 3) := by decide +kernel
theorem dX6_count_107 : decode cX6_count 107 = .ok (.ifCond .eq 7, 3) := by decide +kernel
theorem dX6_count_110 : decode cX6_count 110 = .ok (.iconst 1, 1) := by decide +kernel
theorem dX6_count_111 : decode cX6_count 111 = .ok (.goto 4, 3) := by decide +kernel
theorem dX6_count_114 : decode cX6_count 114 = .ok (.iconst 0, 1) := by decide +kernel
theorem dX6_count_115 : decode cX6_count 115 = .ok (.iadd, 1) := by decide +kernel
theorem dX6_count_116 : decode cX6_count 116 = .ok (.istore_n 2, 1) := by decide +kernel
theorem dX6_count_117 : decode cX6_count 117 = .ok (.iinc 3 1, 3) := by decide +kernel
theorem dX6_count_120 : decode cX6_count 120 = .ok (.goto (-32), 3) := by decide +kernel
theorem dX6_count_123 : decode cX6_count 123 = .ok (.iload_n 2, 1) := by decide +kernel
theorem dX6_count_124 : decode cX6_count 124 = .ok (.ireturn, 1) := by decide +kernel
theorem dX0_init_0 : decode cX0_init 0 = .ok (.aload_n 0, 1) := by decide +kernel
theorem dX0_init_1 : decode cX0_init 1 = .ok (.invokespecial 3, 3) := by decide +kernel
theorem dX0_init_4 : decode cX0_init 4 = .ok (.aload_n 0, 1) := by decide +kernel
theorem dX0_init_5 : decode cX0_init 5 = .ok (.iconst 0, 1) := by decide +kernel
theorem dX0_init_6 : decode cX0_init 6 = .ok (.putfield 9, 3) := by decide +kernel
theorem dX0_init_9 : decode cX0_init 9 = .ok (.aload_n 0, 1) := by decide +kernel
theorem dX0_init_10 : decode cX0_init 10 = .ok (.bipush 121, 2) := by decide +kernel
theorem dX0_init_12 : decode cX0_init 12 = .ok (.newarray .int, 2) := by decide +kernel
theorem dX0_init_14 : decode cX0_init 14 = .ok (.putfield 15, 3) := by decide +kernel
theorem dX0_init_17 : decode cX0_init 17 = .ok (.aload_n 0, 1) := by decide +kernel
theorem dX0_init_18 : decode cX0_init 18 = .ok (.bipush 121, 2) := by decide +kernel
theorem dX0_init_20 : decode cX0_init 20 = .ok (.newarray .int, 2) := by decide +kernel
theorem dX0_init_22 : decode cX0_init 22 = .ok (.putfield 19, 3) := by decide +kernel
theorem dX0_init_25 : decode cX0_init 25 = .ok (.aload_n 0, 1) := by decide +kernel
theorem dX0_init_26 : decode cX0_init 26 = .ok (.bipush 121, 2) := by decide +kernel
theorem dX0_init_28 : decode cX0_init 28 = .ok (.newarray .int, 2) := by decide +kernel
theorem dX0_init_30 : decode cX0_init 30 = .ok (.putfield 22, 3) := by decide +kernel
theorem dX0_init_33 : decode cX0_init 33 = .ok (.aload_n 0, 1) := by decide +kernel
theorem dX0_init_34 : decode cX0_init 34 = .ok (.bipush 121, 2) := by decide +kernel
theorem dX0_init_36 : decode cX0_init 36 = .ok (.newarray .int, 2) := by decide +kernel
theorem dX0_init_38 : decode cX0_init 38 = .ok (.putfield 25, 3) := by decide +kernel
