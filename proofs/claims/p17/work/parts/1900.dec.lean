theorem dX4_init_0 : decode cX4_init 0 = .ok (.aload_n 0, 1) := by decide +kernel
theorem dX4_init_1 : decode cX4_init 1 = .ok (.invokespecial 3, 3) := by decide +kernel
theorem dX4_init_4 : decode cX4_init 4 = .ok (.aload_n 0, 1) := by decide +kernel
theorem dX4_init_5 : decode cX4_init 5 = .ok (.new 9, 3) := by decide +kernel
theorem dX4_init_8 : decode cX4_init 8 = .ok (.dup, 1) := by decide +kernel
theorem dX4_init_9 : decode cX4_init 9 = .ok (.invokespecial 11, 3) := by decide +kernel
theorem dX4_init_12 : decode cX4_init 12 = .ok (.putfield 12, 3) := by decide +kernel
theorem dX4_init_15 : decode cX4_init 15 = .ok (.aload_n 0, 1) := by decide +kernel
theorem dX4_init_16 : decode cX4_init 16 = .ok (.new 16, 3) := by decide +kernel
theorem dX4_init_19 : decode cX4_init 19 = .ok (.dup, 1) := by decide +kernel
theorem dX4_init_20 : decode cX4_init 20 = .ok (.invokespecial 18, 3) := by decide +kernel
theorem dX4_init_23 : decode cX4_init 23 = .ok (.putfield 19, 3) := by decide +kernel
theorem dX4_init_26 : decode cX4_init 26 = .ok (.aload_n 0, 1) := by decide +kernel
theorem dX4_init_27 : decode cX4_init 27 = .ok (.new 23, 3) := by decide +kernel
theorem dX4_init_30 : decode cX4_init 30 = .ok (.dup, 1) := by decide +kernel
theorem dX4_init_31 : decode cX4_init 31 = .ok (.invokespecial 25, 3) := by decide +kernel
theorem dX4_init_34 : decode cX4_init 34 = .ok (.putfield 26, 3) := by decide +kernel
theorem dX4_init_37 : decode cX4_init 37 = .ok (.aload_n 0, 1) := by decide +kernel
theorem dX4_init_38 : decode cX4_init 38 = .ok (.new 30, 3) := by decide +kernel
theorem dX4_init_41 : decode cX4_init 41 = .ok (.dup, 1) := by decide +kernel
theorem dX4_init_42 : decode cX4_init 42 = .ok (.invokespecial 32, 3) := by decide +kernel
theorem dX4_init_45 : decode cX4_init 45 = .ok (.putfield 33, 3) := by decide +kernel
theorem dX4_init_48 : decode cX4_init 48 = .ok (.return_, 1) := by decide +kernel
theorem dX4_rule_0 : decode cX4_rule 0 = .ok (.iload_n 1, 1) := by decide +kernel
theorem dX4_rule_1 : decode cX4_rule 1 = .ok (.bipush 8, 2) := by decide +kernel
theorem dX4_rule_3 : decode cX4_rule 3 = .ok (.invokestatic 37, 3) := by decide +kernel
theorem dX4_rule_6 : decode cX4_rule 6 = .ok (.invokestatic 41, 3) := by decide +kernel
theorem dX4_rule_9 : decode cX4_rule 9 = .ok (.iload_n 2, 1) := by decide +kernel
theorem dX4_rule_10 : decode cX4_rule 10 = .ok (.sipush 20001, 3) := by decide +kernel
theorem dX4_rule_13 : decode cX4_rule 13 = .ok (.invokestatic 37, 3) := by decide +kernel
theorem dX4_rule_16 : decode cX4_rule 16 = .ok (.invokestatic 45, 3) := by decide +kernel
theorem dX4_rule_19 : decode cX4_rule 19 = .ok (.iload_n 3, 1) := by decide +kernel
theorem dX4_rule_20 : decode cX4_rule 20 = .ok (.ldc 48, 2) := by decide +kernel
theorem dX4_rule_22 : decode cX4_rule 22 = .ok (.invokestatic 37, 3) := by decide +kernel
theorem dX4_rule_25 : decode cX4_rule 25 = .ok (.invokestatic 45, 3) := by decide +kernel
theorem dX4_rule_28 : decode cX4_rule 28 = .ok (.iload 4, 2) := by decide +kernel
theorem dX4_rule_30 : decode cX4_rule 30 = .ok (.bipush 101, 2) := by decide +kernel
theorem dX4_rule_32 : decode cX4_rule 32 = .ok (.invokestatic 37, 3) := by decide +kernel
theorem dX4_rule_35 : decode cX4_rule 35 = .ok (.invokestatic 45, 3) := by decide +kernel
theorem dX4_rule_38 : decode cX4_rule 38 = .ok (.iload 5, 2) := by decide +kernel
theorem dX4_rule_40 : decode cX4_rule 40 = .ok (.iconst 1, 1) := by decide +kernel
theorem dX4_rule_41 : decode cX4_rule 41 = .ok (.if_icmp .lt 14, 3) := by decide +kernel
theorem dX4_rule_44 : decode cX4_rule 44 = .ok (.iload 5, 2) := by decide +kernel
theorem dX4_rule_46 : decode cX4_rule 46 = .ok (.bipush 100, 2) := by decide +kernel
theorem dX4_rule_48 : decode cX4_rule 48 = .ok (.if_icmp .gt 7, 3) := by decide +kernel
theorem dX4_rule_51 : decode cX4_rule 51 = .ok (.iconst 1, 1) := by decide +kernel
theorem dX4_rule_52 : decode cX4_rule 52 = .ok (.goto 4, 3) := by decide +kernel
theorem dX4_rule_55 : decode cX4_rule 55 = .ok (.iconst 0, 1) := by decide +kernel
theorem dX4_rule_56 : decode cX4_rule 56 = .ok (.invokestatic 45, 3) := by decide +kernel
theorem dX4_rule_59 : decode cX4_rule 59 = .ok (.aload_n 0, 1) := by decide +kernel
theorem dX4_rule_60 : decode cX4_rule 60 = .ok (.getfield 12, 3) := by decide +kernel
theorem dX4_rule_63 : decode cX4_rule 63 = .ok (.getfield 49, 3) := by decide +kernel
theorem dX4_rule_66 : decode cX4_rule 66 = .ok (.iload_n 1, 1) := by decide +kernel
theorem dX4_rule_67 : decode cX4_rule 67 = .ok (.iload_n 2, 1) := by decide +kernel
theorem dX4_rule_68 : decode cX4_rule 68 = .ok (.iastore, 1) := by decide +kernel
theorem dX4_rule_69 : decode cX4_rule 69 = .ok (.aload_n 0, 1) := by decide +kernel
theorem dX4_rule_70 : decode cX4_rule 70 = .ok (.getfield 12, 3) := by decide +kernel
theorem dX4_rule_73 : decode cX4_rule 73 = .ok (.getfield 53, 3) := by decide +kernel
theorem dX4_rule_76 : decode cX4_rule 76 = .ok (.iload_n 1, 1) := by decide +kernel
theorem dX4_rule_77 : decode cX4_rule 77 = .ok (.iload_n 3, 1) := by decide +kernel
theorem dX4_rule_78 : decode cX4_rule 78 = .ok (.iastore, 1) := by decide +kernel
theorem dX4_rule_79 : decode cX4_rule 79 = .ok (.aload_n 0, 1) := by decide +kernel
theorem dX4_rule_80 : decode cX4_rule 80 = .ok (.getfield 12, 3) := by decide +kernel
theorem dX4_rule_83 : decode cX4_rule 83 = .ok (.getfield 56, 3) := by decide +kernel
theorem dX4_rule_86 : decode cX4_rule 86 = .ok (.iload_n 1, 1) := by decide +kernel
theorem dX4_rule_87 : decode cX4_rule 87 = .ok (.iload 4, 2) := by decide +kernel
theorem dX4_rule_89 : decode cX4_rule 89 = .ok (.iastore, 1) := by decide +kernel
theorem dX4_rule_90 : decode cX4_rule 90 = .ok (.aload_n 0, 1) := by decide +kernel
theorem dX4_rule_91 : decode cX4_rule 91 = .ok (.getfield 12, 3) := by decide +kernel
theorem dX4_rule_94 : decode cX4_rule 94 = .ok (.getfield 59, 3) := by decide +kernel
theorem dX4_rule_97 : decode cX4_rule 97 = .ok (.iload_n 1, 1) := by decide +kernel
theorem dX4_rule_98 : decode cX4_rule 98 = .ok (.iload 5, 2) := by decide +kernel
theorem dX4_rule_100 : decode cX4_rule 100 = .ok (.iastore, 1) := by decide +kernel
theorem dX4_rule_101 : decode cX4_rule 101 = .ok (.return_, 1) := by decide +kernel
theorem dX4_weight_0 : decode cX4_weight 0 = .ok (.iload_n 1, 1) := by decide +kernel
theorem dX4_weight_1 : decode cX4_weight 1 = .ok (.bipush 8, 2) := by decide +kernel
theorem dX4_weight_3 : decode cX4_weight 3 = .ok (.invokestatic 37, 3) := by decide +kernel
theorem dX4_weight_6 : decode cX4_weight 6 = .ok (.ifCond .eq 16, 3) := by decide +kernel
theorem dX4_weight_9 : decode cX4_weight 9 = .ok (.iload_n 2, 1) := by decide +kernel
theorem dX4_weight_10 : decode cX4_weight 10 = .ok (.bipush 32, 2) := by decide +kernel
theorem dX4_weight_12 : decode cX4_weight 12 = .ok (.invokestatic 37, 3) := by decide +kernel
theorem dX4_weight_15 : decode cX4_weight 15 = .ok (.ifCond .eq 7, 3) := by decide +kernel
theorem dX4_weight_18 : decode cX4_weight 18 = .ok (.iconst 1, 1) := by decide +kernel
theorem dX4_weight_19 : decode cX4_weight 19 = .ok (.goto 4, 3) := by decide +kernel
theorem dX4_weight_22 : decode cX4_weight 22 = .ok (.iconst 0, 1) := by decide +kernel
theorem dX4_weight_23 : decode cX4_weight 23 = .ok (.invokestatic 41, 3) := by decide +kernel
theorem dX4_weight_26 : decode cX4_weight 26 = .ok (.iload_n 3, 1) := by decide +kernel
theorem dX4_weight_27 : decode cX4_weight 27 = .ok (.bipush 101, 2) := by decide +kernel
theorem dX4_weight_29 : decode cX4_weight 29 = .ok (.invokestatic 37, 3) := by decide +kernel
theorem dX4_weight_32 : decode cX4_weight 32 = .ok (.invokestatic 45, 3) := by decide +kernel
theorem dX4_weight_35 : decode cX4_weight 35 = .ok (.aload_n 0, 1) := by decide +kernel
theorem dX4_weight_36 : decode cX4_weight 36 = .ok (.getfield 12, 3) := by decide +kernel
theorem dX4_weight_39 : decode cX4_weight 39 = .ok (.getfield 62, 3) := by decide +kernel
theorem dX4_weight_42 : decode cX4_weight 42 = .ok (.iload_n 1, 1) := by decide +kernel
theorem dX4_weight_43 : decode cX4_weight 43 = .ok (.bipush 32, 2) := by decide +kernel
theorem dX4_weight_45 : decode cX4_weight 45 = .ok (.imul, 1) := by decide +kernel
theorem dX4_weight_46 : decode cX4_weight 46 = .ok (.iload_n 2, 1) := by decide +kernel
theorem dX4_weight_47 : decode cX4_weight 47 = .ok (.iadd, 1) := by decide +kernel
theorem dX4_weight_48 : decode cX4_weight 48 = .ok (.iload_n 3, 1) := by decide +kernel
theorem dX4_weight_49 : decode cX4_weight 49 = .ok (.iastore, 1) := by decide +kernel
theorem dX4_weight_50 : decode cX4_weight 50 = .ok (.return_, 1) := by decide +kernel
theorem dX4_point_0 : decode cX4_point 0 = .ok (.iload_n 1, 1) := by decide +kernel
theorem dX4_point_1 : decode cX4_point 1 = .ok (.bipush 8, 2) := by decide +kernel
theorem dX4_point_3 : decode cX4_point 3 = .ok (.invokestatic 37, 3) := by decide +kernel
theorem dX4_point_6 : decode cX4_point 6 = .ok (.invokestatic 41, 3) := by decide +kernel
theorem dX4_point_9 : decode cX4_point 9 = .ok (.iload_n 2, 1) := by decide +kernel
theorem dX4_point_10 : decode cX4_point 10 = .ok (.ldc 65, 2) := by decide +kernel
theorem dX4_point_12 : decode cX4_point 12 = .ok (.invokestatic 37, 3) := by decide +kernel
theorem dX4_point_15 : decode cX4_point 15 = .ok (.invokestatic 45, 3) := by decide +kernel
theorem dX4_point_18 : decode cX4_point 18 = .ok (.aload_n 0, 1) := by decide +kernel
theorem dX4_point_19 : decode cX4_point 19 = .ok (.getfield 19, 3) := by decide +kernel
theorem dX4_point_22 : decode cX4_point 22 = .ok (.getfield 66, 3) := by decide +kernel
theorem dX4_point_25 : decode cX4_point 25 = .ok (.iload_n 1, 1) := by decide +kernel
theorem dX4_point_26 : decode cX4_point 26 = .ok (.iaload, 1) := by decide +kernel
theorem dX4_point_27 : decode cX4_point 27 = .ok (.bipush 8, 2) := by decide +kernel
theorem dX4_point_29 : decode cX4_point 29 = .ok (.if_icmp .ge 7, 3) := by decide +kernel
theorem dX4_point_32 : decode cX4_point 32 = .ok (.iconst 1, 1) := by decide +kernel
theorem dX4_point_33 : decode cX4_point 33 = .ok (.goto 4, 3) := by decide +kernel
theorem dX4_point_36 : decode cX4_point 36 = .ok (.iconst 0, 1) := by decide +kernel
theorem dX4_point_37 : decode cX4_point 37 = .ok (.invokestatic 69, 3) := by decide +kernel
theorem dX4_point_40 : decode cX4_point 40 = .ok (.aload_n 0, 1) := by decide +kernel
theorem dX4_point_41 : decode cX4_point 41 = .ok (.getfield 19, 3) := by decide +kernel
theorem dX4_point_44 : decode cX4_point 44 = .ok (.iload_n 1, 1) := by decide +kernel
theorem dX4_point_45 : decode cX4_point 45 = .ok (.iload_n 2, 1) := by decide +kernel
theorem dX4_point_46 : decode cX4_point 46 = .ok (.invokevirtual 72, 3) := by decide +kernel
theorem dX4_point_49 : decode cX4_point 49 = .ok (.ireturn, 1) := by decide +kernel
theorem dX4_call_0 : decode cX4_call 0 = .ok (.aload_n 0, 1) := by decide +kernel
theorem dX4_call_1 : decode cX4_call 1 = .ok (.iload_n 1, 1) := by decide +kernel
theorem dX4_call_2 : decode cX4_call 2 = .ok (.iload_n 2, 1) := by decide +kernel
theorem dX4_call_3 : decode cX4_call 3 = .ok (.iload_n 3, 1) := by decide +kernel
theorem dX4_call_4 : decode cX4_call 4 = .ok (.iload 5, 2) := by decide +kernel
theorem dX4_call_6 : decode cX4_call 6 = .ok (.iload 6, 2) := by decide +kernel
theorem dX4_call_8 : decode cX4_call 8 = .ok (.invokevirtual 76, 3) := by decide +kernel
theorem dX4_call_11 : decode cX4_call 11 = .ok (.aload_n 0, 1) := by decide +kernel
theorem dX4_call_12 : decode cX4_call 12 = .ok (.getfield 26, 3) := by decide +kernel
theorem dX4_call_15 : decode cX4_call 15 = .ok (.getfield 80, 3) := by decide +kernel
theorem dX4_call_18 : decode cX4_call 18 = .ok (.bipush 120, 2) := by decide +kernel
theorem dX4_call_20 : decode cX4_call 20 = .ok (.if_icmp .ge 7, 3) := by decide +kernel
theorem dX4_call_23 : decode cX4_call 23 = .ok (.iconst 1, 1) := by decide +kernel
theorem dX4_call_24 : decode cX4_call 24 = .ok (.goto 4, 3) := by decide +kernel
theorem dX4_call_27 : decode cX4_call 27 = .ok (.iconst 0, 1) := by decide +kernel
theorem dX4_call_28 : decode cX4_call 28 = .ok (.invokestatic 69, 3) := by decide +kernel
theorem dX4_call_31 : decode cX4_call 31 = .ok (.aload_n 0, 1) := by decide +kernel
theorem dX4_call_32 : decode cX4_call 32 = .ok (.getfield 26, 3) := by decide +kernel
theorem dX4_call_35 : decode cX4_call 35 = .ok (.iload_n 1, 1) := by decide +kernel
theorem dX4_call_36 : decode cX4_call 36 = .ok (.iload_n 2, 1) := by decide +kernel
theorem dX4_call_37 : decode cX4_call 37 = .ok (.iload_n 3, 1) := by decide +kernel
theorem dX4_call_38 : decode cX4_call 38 = .ok (.iload 4, 2) := by decide +kernel
theorem dX4_call_40 : decode cX4_call 40 = .ok (.iload 5, 2) := by decide +kernel
theorem dX4_call_42 : decode cX4_call 42 = .ok (.iload 6, 2) := by decide +kernel
theorem dX4_call_44 : decode cX4_call 44 = .ok (.invokevirtual 83, 3) := by decide +kernel
theorem dX4_call_47 : decode cX4_call 47 = .ok (.istore 7, 2) := by decide +kernel
theorem dX4_call_49 : decode cX4_call 49 = .ok (.aload_n 0, 1) := by decide +kernel
theorem dX4_call_50 : decode cX4_call 50 = .ok (.iload 7, 2) := by decide +kernel
theorem dX4_call_52 : decode cX4_call 52 = .ok (.invokevirtual 87, 3) := by decide +kernel
theorem dX4_call_55 : decode cX4_call 55 = .ok (.aload_n 0, 1) := by decide +kernel
theorem dX4_call_56 : decode cX4_call 56 = .ok (.getfield 26, 3) := by decide +kernel
theorem dX4_call_59 : decode cX4_call 59 = .ok (.getfield 91, 3) := by decide +kernel
theorem dX4_call_62 : decode cX4_call 62 = .ok (.iload 7, 2) := by decide +kernel
theorem dX4_call_64 : decode cX4_call 64 = .ok (.iaload, 1) := by decide +kernel
theorem dX4_call_65 : decode cX4_call 65 = .ok (.istore 8, 2) := by decide +kernel
theorem dX4_call_67 : decode cX4_call 67 = .ok (.iload 8, 2) := by decide +kernel
theorem dX4_call_69 : decode cX4_call 69 = .ok (.iconst (-1), 1) := by decide +kernel
theorem dX4_call_70 : decode cX4_call 70 = .ok (.if_icmp .ne 46, 3) := by decide +kernel
theorem dX4_call_73 : decode cX4_call 73 = .ok (.aload_n 0, 1) := by decide +kernel
theorem dX4_call_74 : decode cX4_call 74 = .ok (.getfield 33, 3) := by decide +kernel
theorem dX4_call_77 : decode cX4_call 77 = .ok (.getfield 94, 3) := by decide +kernel
theorem dX4_call_80 : decode cX4_call 80 = .ok (.bipush 60, 2) := by decide +kernel
theorem dX4_call_82 : decode cX4_call 82 = .ok (.if_icmp .ge 7, 3) := by decide +kernel
theorem dX4_call_85 : decode cX4_call 85 = .ok (.iconst 1, 1) := by decide +kernel
theorem dX4_call_86 : decode cX4_call 86 = .ok (.goto 4, 3) := by decide +kernel
theorem dX4_call_89 : decode cX4_call 89 = .ok (.iconst 0, 1) := by decide +kernel
theorem dX4_call_90 : decode cX4_call 90 = .ok (.invokestatic 69, 3) := by decide +kernel
theorem dX4_call_93 : decode cX4_call 93 = .ok (.aload_n 0, 1) := by decide +kernel
theorem dX4_call_94 : decode cX4_call 94 = .ok (.getfield 26, 3) := by decide +kernel
theorem dX4_call_97 : decode cX4_call 97 = .ok (.getfield 95, 3) := by decide +kernel
theorem dX4_call_100 : decode cX4_call 100 = .ok (.iload 7, 2) := by decide +kernel
theorem dX4_call_102 : decode cX4_call 102 = .ok (.aload_n 0, 1) := by decide +kernel
theorem dX4_call_103 : decode cX4_call 103 = .ok (.getfield 33, 3) := by decide +kernel
theorem dX4_call_106 : decode cX4_call 106 = .ok (.iload_n 2, 1) := by decide +kernel
theorem dX4_call_107 : decode cX4_call 107 = .ok (.iload 7, 2) := by decide +kernel
theorem dX4_call_109 : decode cX4_call 109 = .ok (.invokevirtual 98, 3) := by decide +kernel
theorem dX4_call_112 : decode cX4_call 112 = .ok (.iastore, 1) := by decide +kernel
theorem dX4_call_113 : decode cX4_call 113 = .ok (.goto 23, 3) := by decide +kernel
theorem dX4_call_116 : decode cX4_call 116 = .ok (.aload_n 0, 1) := by decide +kernel
theorem dX4_call_117 : decode cX4_call 117 = .ok (.getfield 26, 3) := by decide +kernel
theorem dX4_call_120 : decode cX4_call 120 = .ok (.getfield 95, 3) := by decide +kernel
theorem dX4_call_123 : decode cX4_call 123 = .ok (.iload 7, 2) := by decide +kernel
theorem dX4_call_125 : decode cX4_call 125 = .ok (.aload_n 0, 1) := by decide +kernel
theorem dX4_call_126 : decode cX4_call 126 = .ok (.getfield 26, 3) := by decide +kernel
theorem dX4_call_129 : decode cX4_call 129 = .ok (.getfield 95, 3) := by decide +kernel
theorem dX4_call_132 : decode cX4_call 132 = .ok (.iload 8, 2) := by decide +kernel
theorem dX4_call_134 : decode cX4_call 134 = .ok (.iaload, 1) := by decide +kernel
theorem dX4_call_135 : decode cX4_call 135 = .ok (.iastore, 1) := by decide +kernel
theorem dX4_call_136 : decode cX4_call 136 = .ok (.aload_n 0, 1) := by decide +kernel
theorem dX4_call_137 : decode cX4_call 137 = .ok (.getfield 26, 3) := by decide +kernel
theorem dX4_call_140 : decode cX4_call 140 = .ok (.dup, 1) := by decide +kernel
theorem dX4_call_141 : decode cX4_call 141 = .ok (.getfield 80, 3) := by decide +kernel
theorem dX4_call_144 : decode cX4_call 144 = .ok (.iconst 1, 1) := by decide +kernel
theorem dX4_call_145 : decode cX4_call 145 = .ok (.iadd, 1) := by decide +kernel
theorem dX4_call_146 : decode cX4_call 146 = .ok (.putfield 80, 3) := by decide +kernel
theorem dX4_call_149 : decode cX4_call 149 = .ok (.iload 7, 2) := by decide +kernel
theorem dX4_call_151 : decode cX4_call 151 = .ok (.ireturn, 1) := by decide +kernel
theorem dX4_reasonFor_0 : decode cX4_reasonFor 0 = .ok (.aload_n 0, 1) := by decide +kernel
theorem dX4_reasonFor_1 : decode cX4_reasonFor 1 = .ok (.iload_n 1, 1) := by decide +kernel
theorem dX4_reasonFor_2 : decode cX4_reasonFor 2 = .ok (.iload_n 2, 1) := by decide +kernel
theorem dX4_reasonFor_3 : decode cX4_reasonFor 3 = .ok (.iload_n 3, 1) := by decide +kernel
theorem dX4_reasonFor_4 : decode cX4_reasonFor 4 = .ok (.iload 5, 2) := by decide +kernel
theorem dX4_reasonFor_6 : decode cX4_reasonFor 6 = .ok (.iload 6, 2) := by decide +kernel
theorem dX4_reasonFor_8 : decode cX4_reasonFor 8 = .ok (.invokevirtual 76, 3) := by decide +kernel
theorem dX4_reasonFor_11 : decode cX4_reasonFor 11 = .ok (.aload_n 0, 1) := by decide +kernel
theorem dX4_reasonFor_12 : decode cX4_reasonFor 12 = .ok (.getfield 26, 3) := by decide +kernel
theorem dX4_reasonFor_15 : decode cX4_reasonFor 15 = .ok (.iload_n 1, 1) := by decide +kernel
theorem dX4_reasonFor_16 : decode cX4_reasonFor 16 = .ok (.iload_n 2, 1) := by decide +kernel
theorem dX4_reasonFor_17 : decode cX4_reasonFor 17 = .ok (.iload_n 3, 1) := by decide +kernel
theorem dX4_reasonFor_18 : decode cX4_reasonFor 18 = .ok (.iload 4, 2) := by decide +kernel
theorem dX4_reasonFor_20 : decode cX4_reasonFor 20 = .ok (.iload 5, 2) := by decide +kernel
theorem dX4_reasonFor_22 : decode cX4_reasonFor 22 = .ok (.iload 6, 2) := by decide +kernel
theorem dX4_reasonFor_24 : decode cX4_reasonFor 24 = .ok (.invokevirtual 83, 3) := by decide +kernel
theorem dX4_reasonFor_27 : decode cX4_reasonFor 27 = .ok (.istore 7, 2) := by decide +kernel
theorem dX4_reasonFor_29 : decode cX4_reasonFor 29 = .ok (.aload_n 0, 1) := by decide +kernel
theorem dX4_reasonFor_30 : decode cX4_reasonFor 30 = .ok (.iload 7, 2) := by decide +kernel
theorem dX4_reasonFor_32 : decode cX4_reasonFor 32 = .ok (.invokevirtual 87, 3) := by decide +kernel
theorem dX4_reasonFor_35 : decode cX4_reasonFor 35 = .ok (.aload_n 0, 1) := by decide +kernel
theorem dX4_reasonFor_36 : decode cX4_reasonFor 36 = .ok (.getfield 26, 3) := by decide +kernel
theorem dX4_reasonFor_39 : decode cX4_reasonFor 39 = .ok (.getfield 91, 3) := by decide +kernel
theorem dX4_reasonFor_42 : decode cX4_reasonFor 42 = .ok (.iload 7, 2) := by decide +kernel
theorem dX4_reasonFor_44 : decode cX4_reasonFor 44 = .ok (.iaload, 1) := by decide +kernel
theorem dX4_reasonFor_45 : decode cX4_reasonFor 45 = .ok (.ireturn, 1) := by decide +kernel
theorem dX4_mark_0 : decode cX4_mark 0 = .ok (.iload_n 1, 1) := by decide +kernel
theorem dX4_mark_1 : decode cX4_mark 1 = .ok (.aload_n 0, 1) := by decide +kernel
theorem dX4_mark_2 : decode cX4_mark 2 = .ok (.getfield 26, 3) := by decide +kernel
theorem dX4_mark_5 : decode cX4_mark 5 = .ok (.getfield 80, 3) := by decide +kernel
theorem dX4_mark_8 : decode cX4_mark 8 = .ok (.invokestatic 37, 3) := by decide +kernel
theorem dX4_mark_11 : decode cX4_mark 11 = .ok (.invokestatic 41, 3) := by decide +kernel
theorem dX4_mark_14 : decode cX4_mark 14 = .ok (.iload_n 2, 1) := by decide +kernel
theorem dX4_mark_15 : decode cX4_mark 15 = .ok (.bipush 8, 2) := by decide +kernel
theorem dX4_mark_17 : decode cX4_mark 17 = .ok (.invokestatic 37, 3) := by decide +kernel
theorem dX4_mark_20 : decode cX4_mark 20 = .ok (.invokestatic 45, 3) := by decide +kernel
theorem dX4_mark_23 : decode cX4_mark 23 = .ok (.aload_n 0, 1) := by decide +kernel
theorem dX4_mark_24 : decode cX4_mark 24 = .ok (.getfield 26, 3) := by decide +kernel
theorem dX4_mark_27 : decode cX4_mark 27 = .ok (.getfield 101, 3) := by decide +kernel
theorem dX4_mark_30 : decode cX4_mark 30 = .ok (.iload_n 1, 1) := by decide +kernel
theorem dX4_mark_31 : decode cX4_mark 31 = .ok (.iload_n 2, 1) := by decide +kernel
theorem dX4_mark_32 : decode cX4_mark 32 = .ok (.iastore, 1) := by decide +kernel
theorem dX4_mark_33 : decode cX4_mark 33 = .ok (.return_, 1) := by decide +kernel
theorem dX4_split_0 : decode cX4_split 0 = .ok (.iload_n 1, 1) := by decide +kernel
theorem dX4_split_1 : decode cX4_split 1 = .ok (.aload_n 0, 1) := by decide +kernel
theorem dX4_split_2 : decode cX4_split 2 = .ok (.getfield 26, 3) := by decide +kernel
theorem dX4_split_5 : decode cX4_split 5 = .ok (.getfield 80, 3) := by decide +kernel
theorem dX4_split_8 : decode cX4_split 8 = .ok (.invokestatic 37, 3) := by decide +kernel
theorem dX4_split_11 : decode cX4_split 11 = .ok (.invokestatic 41, 3) := by decide +kernel
theorem dX4_split_14 : decode cX4_split 14 = .ok (.aload_n 0, 1) := by decide +kernel
theorem dX4_split_15 : decode cX4_split 15 = .ok (.getfield 26, 3) := by decide +kernel
theorem dX4_split_18 : decode cX4_split 18 = .ok (.getfield 91, 3) := by decide +kernel
theorem dX4_split_21 : decode cX4_split 21 = .ok (.iload_n 1, 1) := by decide +kernel
theorem dX4_split_22 : decode cX4_split 22 = .ok (.iaload, 1) := by decide +kernel
theorem dX4_split_23 : decode cX4_split 23 = .ok (.iconst (-1), 1) := by decide +kernel
theorem dX4_split_24 : decode cX4_split 24 = .ok (.if_icmp .eq 15, 3) := by decide +kernel
theorem dX4_split_27 : decode cX4_split 27 = .ok (.aload_n 0, 1) := by decide +kernel
theorem dX4_split_28 : decode cX4_split 28 = .ok (.iload_n 1, 1) := by decide +kernel
theorem dX4_split_29 : decode cX4_split 29 = .ok (.invokevirtual 104, 3) := by decide +kernel
theorem dX4_split_32 : decode cX4_split 32 = .ok (.ifCond .eq 7, 3) := by decide +kernel
theorem dX4_split_35 : decode cX4_split 35 = .ok (.iconst 1, 1) := by decide +kernel
theorem dX4_split_36 : decode cX4_split 36 = .ok (.goto 4, 3) := by decide +kernel
theorem dX4_split_39 : decode cX4_split 39 = .ok (.iconst 0, 1) := by decide +kernel
theorem dX4_split_40 : decode cX4_split 40 = .ok (.invokestatic 108, 3) := by decide +kernel
theorem dX4_split_43 : decode cX4_split 43 = .ok (.aload_n 0, 1) := by decide +kernel
theorem dX4_split_44 : decode cX4_split 44 = .ok (.getfield 33, 3) := by decide +kernel
theorem dX4_split_47 : decode cX4_split 47 = .ok (.getfield 94, 3) := by decide +kernel
theorem dX4_split_50 : decode cX4_split 50 = .ok (.bipush 60, 2) := by decide +kernel
theorem dX4_split_52 : decode cX4_split 52 = .ok (.if_icmp .ge 7, 3) := by decide +kernel
theorem dX4_split_55 : decode cX4_split 55 = .ok (.iconst 1, 1) := by decide +kernel
theorem dX4_split_56 : decode cX4_split 56 = .ok (.goto 4, 3) := by decide +kernel
theorem dX4_split_59 : decode cX4_split 59 = .ok (.iconst 0, 1) := by decide +kernel
theorem dX4_split_60 : decode cX4_split 60 = .ok (.invokestatic 69, 3) := by decide +kernel
theorem dX4_split_63 : decode cX4_split 63 = .ok (.aload_n 0, 1) := by decide +kernel
theorem dX4_split_64 : decode cX4_split 64 = .ok (.getfield 33, 3) := by decide +kernel
theorem dX4_split_67 : decode cX4_split 67 = .ok (.aload_n 0, 1) := by decide +kernel
theorem dX4_split_68 : decode cX4_split 68 = .ok (.getfield 26, 3) := by decide +kernel
theorem dX4_split_71 : decode cX4_split 71 = .ok (.getfield 111, 3) := by decide +kernel
theorem dX4_split_74 : decode cX4_split 74 = .ok (.iload_n 1, 1) := by decide +kernel
theorem dX4_split_75 : decode cX4_split 75 = .ok (.iaload, 1) := by decide +kernel
theorem dX4_split_76 : decode cX4_split 76 = .ok (.iload_n 1, 1) := by decide +kernel
theorem dX4_split_77 : decode cX4_split 77 = .ok (.invokevirtual 98, 3) := by decide +kernel
theorem dX4_split_80 : decode cX4_split 80 = .ok (.istore_n 2, 1) := by decide +kernel
theorem dX4_split_81 : decode cX4_split 81 = .ok (.aload_n 0, 1) := by decide +kernel
theorem dX4_split_82 : decode cX4_split 82 = .ok (.getfield 26, 3) := by decide +kernel
theorem dX4_split_85 : decode cX4_split 85 = .ok (.iload_n 1, 1) := by decide +kernel
theorem dX4_split_86 : decode cX4_split 86 = .ok (.iload_n 2, 1) := by decide +kernel
theorem dX4_split_87 : decode cX4_split 87 = .ok (.invokevirtual 114, 3) := by decide +kernel
theorem dX4_split_90 : decode cX4_split 90 = .ok (.aload_n 0, 1) := by decide +kernel
theorem dX4_split_91 : decode cX4_split 91 = .ok (.getfield 26, 3) := by decide +kernel
theorem dX4_split_94 : decode cX4_split 94 = .ok (.getfield 91, 3) := by decide +kernel
theorem dX4_split_97 : decode cX4_split 97 = .ok (.iload_n 1, 1) := by decide +kernel
theorem dX4_split_98 : decode cX4_split 98 = .ok (.iconst (-1), 1) := by decide +kernel
theorem dX4_split_99 : decode cX4_split 99 = .ok (.iastore, 1) := by decide +kernel
theorem dX4_split_100 : decode cX4_split 100 = .ok (.aload_n 0, 1) := by decide +kernel
theorem dX4_split_101 : decode cX4_split 101 = .ok (.getfield 26, 3) := by decide +kernel
theorem dX4_split_104 : decode cX4_split 104 = .ok (.getfield 118, 3) := by decide +kernel
theorem dX4_split_107 : decode cX4_split 107 = .ok (.iload_n 1, 1) := by decide +kernel
theorem dX4_split_108 : decode cX4_split 108 = .ok (.iconst 0, 1) := by decide +kernel
theorem dX4_split_109 : decode cX4_split 109 = .ok (.iastore, 1) := by decide +kernel
theorem dX4_split_110 : decode cX4_split 110 = .ok (.iload_n 2, 1) := by decide +kernel
theorem dX4_split_111 : decode cX4_split 111 = .ok (.ireturn, 1) := by decide +kernel
theorem dX4_merge_0 : decode cX4_merge 0 = .ok (.iload_n 1, 1) := by decide +kernel
theorem dX4_merge_1 : decode cX4_merge 1 = .ok (.aload_n 0, 1) := by decide +kernel
theorem dX4_merge_2 : decode cX4_merge 2 = .ok (.getfield 33, 3) := by decide +kernel
theorem dX4_merge_5 : decode cX4_merge 5 = .ok (.getfield 94, 3) := by decide +kernel
theorem dX4_merge_8 : decode cX4_merge 8 = .ok (.invokestatic 37, 3) := by decide +kernel
theorem dX4_merge_11 : decode cX4_merge 11 = .ok (.ifCond .eq 21, 3) := by decide +kernel
theorem dX4_merge_14 : decode cX4_merge 14 = .ok (.iload_n 2, 1) := by decide +kernel
theorem dX4_merge_15 : decode cX4_merge 15 = .ok (.aload_n 0, 1) := by decide +kernel
theorem dX4_merge_16 : decode cX4_merge 16 = .ok (.getfield 26, 3) := by decide +kernel
theorem dX4_merge_19 : decode cX4_merge 19 = .ok (.getfield 80, 3) := by decide +kernel
theorem dX4_merge_22 : decode cX4_merge 22 = .ok (.invokestatic 37, 3) := by decide +kernel
theorem dX4_merge_25 : decode cX4_merge 25 = .ok (.ifCond .eq 7, 3) := by decide +kernel
theorem dX4_merge_28 : decode cX4_merge 28 = .ok (.iconst 1, 1) := by decide +kernel
theorem dX4_merge_29 : decode cX4_merge 29 = .ok (.goto 4, 3) := by decide +kernel
theorem dX4_merge_32 : decode cX4_merge 32 = .ok (.iconst 0, 1) := by decide +kernel
theorem dX4_merge_33 : decode cX4_merge 33 = .ok (.invokestatic 41, 3) := by decide +kernel
theorem dX4_merge_36 : decode cX4_merge 36 = .ok (.aload_n 0, 1) := by decide +kernel
theorem dX4_merge_37 : decode cX4_merge 37 = .ok (.getfield 26, 3) := by decide +kernel
theorem dX4_merge_40 : decode cX4_merge 40 = .ok (.getfield 95, 3) := by decide +kernel
theorem dX4_merge_43 : decode cX4_merge 43 = .ok (.iload_n 2, 1) := by decide +kernel
theorem dX4_merge_44 : decode cX4_merge 44 = .ok (.iaload, 1) := by decide +kernel
theorem dX4_merge_45 : decode cX4_merge 45 = .ok (.istore_n 3, 1) := by decide +kernel
theorem dX4_merge_46 : decode cX4_merge 46 = .ok (.aload_n 0, 1) := by decide +kernel
theorem dX4_merge_47 : decode cX4_merge 47 = .ok (.getfield 33, 3) := by decide +kernel
theorem dX4_merge_50 : decode cX4_merge 50 = .ok (.getfield 121, 3) := by decide +kernel
theorem dX4_merge_53 : decode cX4_merge 53 = .ok (.iload_n 1, 1) := by decide +kernel
theorem dX4_merge_54 : decode cX4_merge 54 = .ok (.iaload, 1) := by decide +kernel
theorem dX4_merge_55 : decode cX4_merge 55 = .ok (.ifCond .ne 24, 3) := by decide +kernel
theorem dX4_merge_58 : decode cX4_merge 58 = .ok (.aload_n 0, 1) := by decide +kernel
theorem dX4_merge_59 : decode cX4_merge 59 = .ok (.getfield 33, 3) := by decide +kernel
theorem dX4_merge_62 : decode cX4_merge 62 = .ok (.getfield 121, 3) := by decide +kernel
theorem dX4_merge_65 : decode cX4_merge 65 = .ok (.iload_n 3, 1) := by decide +kernel
theorem dX4_merge_66 : decode cX4_merge 66 = .ok (.iaload, 1) := by decide +kernel
theorem dX4_merge_67 : decode cX4_merge 67 = .ok (.ifCond .ne 12, 3) := by decide +kernel
theorem dX4_merge_70 : decode cX4_merge 70 = .ok (.iload_n 1, 1) := by decide +kernel
theorem dX4_merge_71 : decode cX4_merge 71 = .ok (.iload_n 3, 1) := by decide +kernel
theorem dX4_merge_72 : decode cX4_merge 72 = .ok (.if_icmp .eq 7, 3) := by decide +kernel
theorem dX4_merge_75 : decode cX4_merge 75 = .ok (.iconst 1, 1) := by decide +kernel
theorem dX4_merge_76 : decode cX4_merge 76 = .ok (.goto 4, 3) := by decide +kernel
theorem dX4_merge_79 : decode cX4_merge 79 = .ok (.iconst 0, 1) := by decide +kernel
theorem dX4_merge_80 : decode cX4_merge 80 = .ok (.invokestatic 108, 3) := by decide +kernel
theorem dX4_merge_83 : decode cX4_merge 83 = .ok (.aload_n 0, 1) := by decide +kernel
theorem dX4_merge_84 : decode cX4_merge 84 = .ok (.getfield 33, 3) := by decide +kernel
theorem dX4_merge_87 : decode cX4_merge 87 = .ok (.getfield 124, 3) := by decide +kernel
theorem dX4_merge_90 : decode cX4_merge 90 = .ok (.iload_n 1, 1) := by decide +kernel
theorem dX4_merge_91 : decode cX4_merge 91 = .ok (.iaload, 1) := by decide +kernel
theorem dX4_merge_92 : decode cX4_merge 92 = .ok (.istore 4, 2) := by decide +kernel
theorem dX4_merge_94 : decode cX4_merge 94 = .ok (.aload_n 0, 1) := by decide +kernel
theorem dX4_merge_95 : decode cX4_merge 95 = .ok (.getfield 26, 3) := by decide +kernel
theorem dX4_merge_98 : decode cX4_merge 98 = .ok (.getfield 91, 3) := by decide +kernel
theorem dX4_merge_101 : decode cX4_merge 101 = .ok (.iload 4, 2) := by decide +kernel
theorem dX4_merge_103 : decode cX4_merge 103 = .ok (.iload_n 2, 1) := by decide +kernel
theorem dX4_merge_104 : decode cX4_merge 104 = .ok (.iastore, 1) := by decide +kernel
theorem dX4_merge_105 : decode cX4_merge 105 = .ok (.aload_n 0, 1) := by decide +kernel
theorem dX4_merge_106 : decode cX4_merge 106 = .ok (.getfield 26, 3) := by decide +kernel
theorem dX4_merge_109 : decode cX4_merge 109 = .ok (.getfield 118, 3) := by decide +kernel
theorem dX4_merge_112 : decode cX4_merge 112 = .ok (.iload 4, 2) := by decide +kernel
theorem dX4_merge_114 : decode cX4_merge 114 = .ok (.iconst 5, 1) := by decide +kernel
theorem dX4_merge_115 : decode cX4_merge 115 = .ok (.iastore, 1) := by decide +kernel
theorem dX4_merge_116 : decode cX4_merge 116 = .ok (.aload_n 0, 1) := by decide +kernel
theorem dX4_merge_117 : decode cX4_merge 117 = .ok (.getfield 26, 3) := by decide +kernel
theorem dX4_merge_120 : decode cX4_merge 120 = .ok (.iload_n 1, 1) := by decide +kernel
theorem dX4_merge_121 : decode cX4_merge 121 = .ok (.iload_n 3, 1) := by decide +kernel
theorem dX4_merge_122 : decode cX4_merge 122 = .ok (.invokevirtual 127, 3) := by decide +kernel
theorem dX4_merge_125 : decode cX4_merge 125 = .ok (.aload_n 0, 1) := by decide +kernel
theorem dX4_merge_126 : decode cX4_merge 126 = .ok (.getfield 33, 3) := by decide +kernel
theorem dX4_merge_129 : decode cX4_merge 129 = .ok (.getfield 121, 3) := by decide +kernel
theorem dX4_merge_132 : decode cX4_merge 132 = .ok (.iload_n 1, 1) := by decide +kernel
theorem dX4_merge_133 : decode cX4_merge 133 = .ok (.iconst 3, 1) := by decide +kernel
theorem dX4_merge_134 : decode cX4_merge 134 = .ok (.iastore, 1) := by decide +kernel
theorem dX4_merge_135 : decode cX4_merge 135 = .ok (.aload_n 0, 1) := by decide +kernel
theorem dX4_merge_136 : decode cX4_merge 136 = .ok (.getfield 33, 3) := by decide +kernel
theorem dX4_merge_139 : decode cX4_merge 139 = .ok (.getfield 124, 3) := by decide +kernel
theorem dX4_merge_142 : decode cX4_merge 142 = .ok (.iload_n 1, 1) := by decide +kernel
theorem dX4_merge_143 : decode cX4_merge 143 = .ok (.iconst (-1), 1) := by decide +kernel
theorem dX4_merge_144 : decode cX4_merge 144 = .ok (.iastore, 1) := by decide +kernel
theorem dX4_merge_145 : decode cX4_merge 145 = .ok (.aload_n 0, 1) := by decide +kernel
theorem dX4_merge_146 : decode cX4_merge 146 = .ok (.getfield 26, 3) := by decide +kernel
theorem dX4_merge_149 : decode cX4_merge 149 = .ok (.iload_n 3, 1) := by decide +kernel
theorem dX4_merge_150 : decode cX4_merge 150 = .ok (.invokevirtual 130, 3) := by decide +kernel
theorem dX4_merge_153 : decode cX4_merge 153 = .ok (.ireturn, 1) := by decide +kernel
theorem dX4_watch_0 : decode cX4_watch 0 = .ok (.iload_n 1, 1) := by decide +kernel
theorem dX4_watch_1 : decode cX4_watch 1 = .ok (.aload_n 0, 1) := by decide +kernel
theorem dX4_watch_2 : decode cX4_watch 2 = .ok (.getfield 33, 3) := by decide +kernel
theorem dX4_watch_5 : decode cX4_watch 5 = .ok (.getfield 94, 3) := by decide +kernel
theorem dX4_watch_8 : decode cX4_watch 8 = .ok (.invokestatic 37, 3) := by decide +kernel
theorem dX4_watch_11 : decode cX4_watch 11 = .ok (.ifCond .eq 16, 3) := by decide +kernel
theorem dX4_watch_14 : decode cX4_watch 14 = .ok (.iload_n 2, 1) := by decide +kernel
theorem dX4_watch_15 : decode cX4_watch 15 = .ok (.bipush 8, 2) := by decide +kernel
theorem dX4_watch_17 : decode cX4_watch 17 = .ok (.invokestatic 37, 3) := by decide +kernel
theorem dX4_watch_20 : decode cX4_watch 20 = .ok (.ifCond .eq 7, 3) := by decide +kernel
theorem dX4_watch_23 : decode cX4_watch 23 = .ok (.iconst 1, 1) := by decide +kernel
theorem dX4_watch_24 : decode cX4_watch 24 = .ok (.goto 4, 3) := by decide +kernel
theorem dX4_watch_27 : decode cX4_watch 27 = .ok (.iconst 0, 1) := by decide +kernel
theorem dX4_watch_28 : decode cX4_watch 28 = .ok (.invokestatic 41, 3) := by decide +kernel
theorem dX4_watch_31 : decode cX4_watch 31 = .ok (.iload_n 3, 1) := by decide +kernel
theorem dX4_watch_32 : decode cX4_watch 32 = .ok (.aload_n 0, 1) := by decide +kernel
theorem dX4_watch_33 : decode cX4_watch 33 = .ok (.getfield 19, 3) := by decide +kernel
theorem dX4_watch_36 : decode cX4_watch 36 = .ok (.getfield 66, 3) := by decide +kernel
theorem dX4_watch_39 : decode cX4_watch 39 = .ok (.iload_n 2, 1) := by decide +kernel
theorem dX4_watch_40 : decode cX4_watch 40 = .ok (.iaload, 1) := by decide +kernel
theorem dX4_watch_41 : decode cX4_watch 41 = .ok (.invokestatic 37, 3) := by decide +kernel
theorem dX4_watch_44 : decode cX4_watch 44 = .ok (.ifCond .eq 30, 3) := by decide +kernel
theorem dX4_watch_47 : decode cX4_watch 47 = .ok (.iload 4, 2) := by decide +kernel
theorem dX4_watch_49 : decode cX4_watch 49 = .ok (.aload_n 0, 1) := by decide +kernel
theorem dX4_watch_50 : decode cX4_watch 50 = .ok (.getfield 19, 3) := by decide +kernel
theorem dX4_watch_53 : decode cX4_watch 53 = .ok (.getfield 66, 3) := by decide +kernel
theorem dX4_watch_56 : decode cX4_watch 56 = .ok (.iload_n 2, 1) := by decide +kernel
theorem dX4_watch_57 : decode cX4_watch 57 = .ok (.iaload, 1) := by decide +kernel
theorem dX4_watch_58 : decode cX4_watch 58 = .ok (.invokestatic 37, 3) := by decide +kernel
theorem dX4_watch_61 : decode cX4_watch 61 = .ok (.ifCond .eq 13, 3) := by decide +kernel
theorem dX4_watch_64 : decode cX4_watch 64 = .ok (.iload_n 3, 1) := by decide +kernel
theorem dX4_watch_65 : decode cX4_watch 65 = .ok (.iload 4, 2) := by decide +kernel
theorem dX4_watch_67 : decode cX4_watch 67 = .ok (.if_icmp .eq 7, 3) := by decide +kernel
theorem dX4_watch_70 : decode cX4_watch 70 = .ok (.iconst 1, 1) := by decide +kernel
theorem dX4_watch_71 : decode cX4_watch 71 = .ok (.goto 4, 3) := by decide +kernel
theorem dX4_watch_74 : decode cX4_watch 74 = .ok (.iconst 0, 1) := by decide +kernel
theorem dX4_watch_75 : decode cX4_watch 75 = .ok (.invokestatic 45, 3) := by decide +kernel
theorem dX4_watch_78 : decode cX4_watch 78 = .ok (.aload_n 0, 1) := by decide +kernel
theorem dX4_watch_79 : decode cX4_watch 79 = .ok (.getfield 33, 3) := by decide +kernel
theorem dX4_watch_82 : decode cX4_watch 82 = .ok (.getfield 121, 3) := by decide +kernel
theorem dX4_watch_85 : decode cX4_watch 85 = .ok (.iload_n 1, 1) := by decide +kernel
theorem dX4_watch_86 : decode cX4_watch 86 = .ok (.iaload, 1) := by decide +kernel
theorem dX4_watch_87 : decode cX4_watch 87 = .ok (.ifCond .ne 7, 3) := by decide +kernel
theorem dX4_watch_90 : decode cX4_watch 90 = .ok (.iconst 1, 1) := by decide +kernel
theorem dX4_watch_91 : decode cX4_watch 91 = .ok (.goto 4, 3) := by decide +kernel
theorem dX4_watch_94 : decode cX4_watch 94 = .ok (.iconst 0, 1) := by decide +kernel
theorem dX4_watch_95 : decode cX4_watch 95 = .ok (.invokestatic 108, 3) := by decide +kernel
theorem dX4_watch_98 : decode cX4_watch 98 = .ok (.aload_n 0, 1) := by decide +kernel
theorem dX4_watch_99 : decode cX4_watch 99 = .ok (.getfield 33, 3) := by decide +kernel
theorem dX4_watch_102 : decode cX4_watch 102 = .ok (.getfield 134, 3) := by decide +kernel
theorem dX4_watch_105 : decode cX4_watch 105 = .ok (.iload_n 1, 1) := by decide +kernel
theorem dX4_watch_106 : decode cX4_watch 106 = .ok (.iload_n 2, 1) := by decide +kernel
theorem dX4_watch_107 : decode cX4_watch 107 = .ok (.iastore, 1) := by decide +kernel
theorem dX4_watch_108 : decode cX4_watch 108 = .ok (.aload_n 0, 1) := by decide +kernel
theorem dX4_watch_109 : decode cX4_watch 109 = .ok (.getfield 33, 3) := by decide +kernel
theorem dX4_watch_112 : decode cX4_watch 112 = .ok (.getfield 137, 3) := by decide +kernel
theorem dX4_watch_115 : decode cX4_watch 115 = .ok (.iload_n 1, 1) := by decide +kernel
theorem dX4_watch_116 : decode cX4_watch 116 = .ok (.iload_n 3, 1) := by decide +kernel
theorem dX4_watch_117 : decode cX4_watch 117 = .ok (.iload 4, 2) := by decide +kernel
theorem dX4_watch_119 : decode cX4_watch 119 = .ok (.invokestatic 140, 3) := by decide +kernel
theorem dX4_watch_122 : decode cX4_watch 122 = .ok (.iastore, 1) := by decide +kernel
theorem dX4_watch_123 : decode cX4_watch 123 = .ok (.aload_n 0, 1) := by decide +kernel
theorem dX4_watch_124 : decode cX4_watch 124 = .ok (.getfield 33, 3) := by decide +kernel
theorem dX4_watch_127 : decode cX4_watch 127 = .ok (.getfield 145, 3) := by decide +kernel
