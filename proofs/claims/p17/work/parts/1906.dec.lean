theorem dX6_reasonFor_42 : decode cX6_reasonFor 42 = .ok (.iload_n 2, 1) := by decide +kernel
theorem dX6_reasonFor_43 : decode cX6_reasonFor 43 = .ok (.iload_n 3, 1) := by decide +kernel
theorem dX6_reasonFor_44 : decode cX6_reasonFor 44 = .ok (.iload 4, 2) := by decide +kernel
theorem dX6_reasonFor_46 : decode cX6_reasonFor 46 = .ok (.iload 5, 2) := by decide +kernel
theorem dX6_reasonFor_48 : decode cX6_reasonFor 48 = .ok (.iload 6, 2) := by decide +kernel
theorem dX6_reasonFor_50 : decode cX6_reasonFor 50 = .ok (.invokevirtual 159, 3) := by decide +kernel
theorem dX6_reasonFor_53 : decode cX6_reasonFor 53 = .ok (.ireturn, 1) := by decide +kernel
theorem dX6_mark_0 : decode cX6_mark 0 = .ok (.aload_n 0, 1) := by decide +kernel
theorem dX6_mark_1 : decode cX6_mark 1 = .ok (.aload_n 0, 1) := by decide +kernel
theorem dX6_mark_2 : decode cX6_mark 2 = .ok (.iload_n 1, 1) := by decide +kernel
theorem dX6_mark_3 : decode cX6_mark 3 = .ok (.invokevirtual 167, 3) := by decide +kernel
theorem dX6_mark_6 : decode cX6_mark 6 = .ok (.ifCond .ne 7, 3) := by decide +kernel
theorem dX6_mark_9 : decode cX6_mark 9 = .ok (.iconst 1, 1) := by decide +kernel
theorem dX6_mark_10 : decode cX6_mark 10 = .ok (.goto 4, 3) := by decide +kernel
theorem dX6_mark_13 : decode cX6_mark 13 = .ok (.iconst 0, 1) := by decide +kernel
theorem dX6_mark_14 : decode cX6_mark 14 = .ok (.iload_n 2, 1) := by decide +kernel
theorem dX6_mark_15 : decode cX6_mark 15 = .ok (.iconst 0, 1) := by decide +kernel
theorem dX6_mark_16 : decode cX6_mark 16 = .ok (.bipush 7, 2) := by decide +kernel
theorem dX6_mark_18 : decode cX6_mark 18 = .ok (.invokestatic 74, 3) := by decide +kernel
theorem dX6_mark_21 : decode cX6_mark 21 = .ok (.ifCond .ne 7, 3) := by decide +kernel
theorem dX6_mark_24 : decode cX6_mark 24 = .ok (.iconst 1, 1) := by decide +kernel
theorem dX6_mark_25 : decode cX6_mark 25 = .ok (.goto 4, 3) := by decide +kernel
theorem dX6_mark_28 : decode cX6_mark 28 = .ok (.iconst 0, 1) := by decide +kernel
theorem dX6_mark_29 : decode cX6_mark 29 = .ok (.iconst 0, 1) := by decide +kernel
theorem dX6_mark_30 : decode cX6_mark 30 = .ok (.invokevirtual 90, 3) := by decide +kernel
theorem dX6_mark_33 : decode cX6_mark 33 = .ok (.ifCond .eq 4, 3) := by decide +kernel
theorem dX6_mark_36 : decode cX6_mark 36 = .ok (.return_, 1) := by decide +kernel
theorem dX6_mark_37 : decode cX6_mark 37 = .ok (.aload_n 0, 1) := by decide +kernel
theorem dX6_mark_38 : decode cX6_mark 38 = .ok (.getfield 52, 3) := by decide +kernel
theorem dX6_mark_41 : decode cX6_mark 41 = .ok (.iload_n 1, 1) := by decide +kernel
theorem dX6_mark_42 : decode cX6_mark 42 = .ok (.iload_n 2, 1) := by decide +kernel
theorem dX6_mark_43 : decode cX6_mark 43 = .ok (.iastore, 1) := by decide +kernel
theorem dX6_mark_44 : decode cX6_mark 44 = .ok (.return_, 1) := by decide +kernel
theorem dX6_split_0 : decode cX6_split 0 = .ok (.aload_n 0, 1) := by decide +kernel
theorem dX6_split_1 : decode cX6_split 1 = .ok (.iload_n 1, 1) := by decide +kernel
theorem dX6_split_2 : decode cX6_split 2 = .ok (.invokevirtual 167, 3) := by decide +kernel
theorem dX6_split_5 : decode cX6_split 5 = .ok (.istore_n 2, 1) := by decide +kernel
theorem dX6_split_6 : decode cX6_split 6 = .ok (.iload_n 2, 1) := by decide +kernel
theorem dX6_split_7 : decode cX6_split 7 = .ok (.ifCond .eq 24, 3) := by decide +kernel
theorem dX6_split_10 : decode cX6_split 10 = .ok (.aload_n 0, 1) := by decide +kernel
theorem dX6_split_11 : decode cX6_split 11 = .ok (.getfield 49, 3) := by decide +kernel
theorem dX6_split_14 : decode cX6_split 14 = .ok (.iload_n 1, 1) := by decide +kernel
theorem dX6_split_15 : decode cX6_split 15 = .ok (.iaload, 1) := by decide +kernel
theorem dX6_split_16 : decode cX6_split 16 = .ok (.ifCond .lt 15, 3) := by decide +kernel
theorem dX6_split_19 : decode cX6_split 19 = .ok (.aload_n 0, 1) := by decide +kernel
theorem dX6_split_20 : decode cX6_split 20 = .ok (.iload_n 1, 1) := by decide +kernel
theorem dX6_split_21 : decode cX6_split 21 = .ok (.invokevirtual 118, 3) := by decide +kernel
theorem dX6_split_24 : decode cX6_split 24 = .ok (.ifCond .eq 7, 3) := by decide +kernel
theorem dX6_split_27 : decode cX6_split 27 = .ok (.iconst 1, 1) := by decide +kernel
theorem dX6_split_28 : decode cX6_split 28 = .ok (.goto 4, 3) := by decide +kernel
theorem dX6_split_31 : decode cX6_split 31 = .ok (.iconst 0, 1) := by decide +kernel
theorem dX6_split_32 : decode cX6_split 32 = .ok (.istore_n 3, 1) := by decide +kernel
theorem dX6_split_33 : decode cX6_split 33 = .ok (.aload_n 0, 1) := by decide +kernel
theorem dX6_split_34 : decode cX6_split 34 = .ok (.iload_n 2, 1) := by decide +kernel
theorem dX6_split_35 : decode cX6_split 35 = .ok (.ifCond .ne 7, 3) := by decide +kernel
theorem dX6_split_38 : decode cX6_split 38 = .ok (.iconst 1, 1) := by decide +kernel
theorem dX6_split_39 : decode cX6_split 39 = .ok (.goto 4, 3) := by decide +kernel
theorem dX6_split_42 : decode cX6_split 42 = .ok (.iconst 0, 1) := by decide +kernel
theorem dX6_split_43 : decode cX6_split 43 = .ok (.iload_n 3, 1) := by decide +kernel
theorem dX6_split_44 : decode cX6_split 44 = .ok (.ifCond .ne 7, 3) := by decide +kernel
theorem dX6_split_47 : decode cX6_split 47 = .ok (.iconst 1, 1) := by decide +kernel
theorem dX6_split_48 : decode cX6_split 48 = .ok (.goto 4, 3) := by decide +kernel
theorem dX6_split_51 : decode cX6_split 51 = .ok (.iconst 0, 1) := by decide +kernel
theorem dX6_split_52 : decode cX6_split 52 = .ok (.aload_n 0, 1) := by decide +kernel
theorem dX6_split_53 : decode cX6_split 53 = .ok (.getfield 81, 3) := by decide +kernel
theorem dX6_split_56 : decode cX6_split 56 = .ok (.bipush 60, 2) := by decide +kernel
theorem dX6_split_58 : decode cX6_split 58 = .ok (.if_icmp .ne 7, 3) := by decide +kernel
theorem dX6_split_61 : decode cX6_split 61 = .ok (.iconst 1, 1) := by decide +kernel
theorem dX6_split_62 : decode cX6_split 62 = .ok (.goto 4, 3) := by decide +kernel
theorem dX6_split_65 : decode cX6_split 65 = .ok (.iconst 0, 1) := by decide +kernel
theorem dX6_split_66 : decode cX6_split 66 = .ok (.invokevirtual 90, 3) := by decide +kernel
theorem dX6_split_69 : decode cX6_split 69 = .ok (.ifCond .eq 5, 3) := by decide +kernel
theorem dX6_split_72 : decode cX6_split 72 = .ok (.iconst 0, 1) := by decide +kernel
theorem dX6_split_73 : decode cX6_split 73 = .ok (.ireturn, 1) := by decide +kernel
theorem dX6_split_74 : decode cX6_split 74 = .ok (.aload_n 0, 1) := by decide +kernel
theorem dX6_split_75 : decode cX6_split 75 = .ok (.invokevirtual 163, 3) := by decide +kernel
theorem dX6_split_78 : decode cX6_split 78 = .ok (.istore 4, 2) := by decide +kernel
theorem dX6_split_80 : decode cX6_split 80 = .ok (.aload_n 0, 1) := by decide +kernel
theorem dX6_split_81 : decode cX6_split 81 = .ok (.getfield 49, 3) := by decide +kernel
theorem dX6_split_84 : decode cX6_split 84 = .ok (.iload_n 1, 1) := by decide +kernel
theorem dX6_split_85 : decode cX6_split 85 = .ok (.iconst (-1), 1) := by decide +kernel
theorem dX6_split_86 : decode cX6_split 86 = .ok (.iastore, 1) := by decide +kernel
theorem dX6_split_87 : decode cX6_split 87 = .ok (.aload_n 0, 1) := by decide +kernel
theorem dX6_split_88 : decode cX6_split 88 = .ok (.getfield 55, 3) := by decide +kernel
theorem dX6_split_91 : decode cX6_split 91 = .ok (.iload_n 1, 1) := by decide +kernel
theorem dX6_split_92 : decode cX6_split 92 = .ok (.iconst 0, 1) := by decide +kernel
theorem dX6_split_93 : decode cX6_split 93 = .ok (.iastore, 1) := by decide +kernel
theorem dX6_split_94 : decode cX6_split 94 = .ok (.aload_n 0, 1) := by decide +kernel
theorem dX6_split_95 : decode cX6_split 95 = .ok (.getfield 46, 3) := by decide +kernel
theorem dX6_split_98 : decode cX6_split 98 = .ok (.iload_n 1, 1) := by decide +kernel
theorem dX6_split_99 : decode cX6_split 99 = .ok (.iaload, 1) := by decide +kernel
theorem dX6_split_100 : decode cX6_split 100 = .ok (.istore 5, 2) := by decide +kernel
theorem dX6_split_102 : decode cX6_split 102 = .ok (.aload_n 0, 1) := by decide +kernel
theorem dX6_split_103 : decode cX6_split 103 = .ok (.getfield 46, 3) := by decide +kernel
theorem dX6_split_106 : decode cX6_split 106 = .ok (.iload_n 1, 1) := by decide +kernel
theorem dX6_split_107 : decode cX6_split 107 = .ok (.iload 4, 2) := by decide +kernel
theorem dX6_split_109 : decode cX6_split 109 = .ok (.iastore, 1) := by decide +kernel
theorem dX6_split_110 : decode cX6_split 110 = .ok (.iconst 1, 1) := by decide +kernel
theorem dX6_split_111 : decode cX6_split 111 = .ok (.istore 6, 2) := by decide +kernel
theorem dX6_split_113 : decode cX6_split 113 = .ok (.iload 6, 2) := by decide +kernel
theorem dX6_split_115 : decode cX6_split 115 = .ok (.ifCond .eq 78, 3) := by decide +kernel
theorem dX6_split_118 : decode cX6_split 118 = .ok (.iconst 0, 1) := by decide +kernel
theorem dX6_split_119 : decode cX6_split 119 = .ok (.istore 6, 2) := by decide +kernel
theorem dX6_split_121 : decode cX6_split 121 = .ok (.iconst 0, 1) := by decide +kernel
theorem dX6_split_122 : decode cX6_split 122 = .ok (.istore 7, 2) := by decide +kernel
theorem dX6_split_124 : decode cX6_split 124 = .ok (.iload 7, 2) := by decide +kernel
theorem dX6_split_126 : decode cX6_split 126 = .ok (.aload_n 0, 1) := by decide +kernel
theorem dX6_split_127 : decode cX6_split 127 = .ok (.getfield 78, 3) := by decide +kernel
theorem dX6_split_130 : decode cX6_split 130 = .ok (.if_icmp .ge 60, 3) := by decide +kernel
theorem dX6_split_133 : decode cX6_split 133 = .ok (.aload_n 0, 1) := by decide +kernel
theorem dX6_split_134 : decode cX6_split 134 = .ok (.getfield 46, 3) := by decide +kernel
theorem dX6_split_137 : decode cX6_split 137 = .ok (.iload 7, 2) := by decide +kernel
theorem dX6_split_139 : decode cX6_split 139 = .ok (.iaload, 1) := by decide +kernel
theorem dX6_split_140 : decode cX6_split 140 = .ok (.iload 5, 2) := by decide +kernel
theorem dX6_split_142 : decode cX6_split 142 = .ok (.if_icmp .ne 42, 3) := by decide +kernel
theorem dX6_split_145 : decode cX6_split 145 = .ok (.aload_n 0, 1) := by decide +kernel
theorem dX6_split_146 : decode cX6_split 146 = .ok (.getfield 49, 3) := by decide +kernel
theorem dX6_split_149 : decode cX6_split 149 = .ok (.iload 7, 2) := by decide +kernel
theorem dX6_split_151 : decode cX6_split 151 = .ok (.iaload, 1) := by decide +kernel
theorem dX6_split_152 : decode cX6_split 152 = .ok (.ifCond .lt 32, 3) := by decide +kernel
theorem dX6_split_155 : decode cX6_split 155 = .ok (.aload_n 0, 1) := by decide +kernel
theorem dX6_split_156 : decode cX6_split 156 = .ok (.getfield 46, 3) := by decide +kernel
theorem dX6_split_159 : decode cX6_split 159 = .ok (.aload_n 0, 1) := by decide +kernel
theorem dX6_split_160 : decode cX6_split 160 = .ok (.getfield 49, 3) := by decide +kernel
theorem dX6_split_163 : decode cX6_split 163 = .ok (.iload 7, 2) := by decide +kernel
theorem dX6_split_165 : decode cX6_split 165 = .ok (.iaload, 1) := by decide +kernel
theorem dX6_split_166 : decode cX6_split 166 = .ok (.iaload, 1) := by decide +kernel
theorem dX6_split_167 : decode cX6_split 167 = .ok (.iload 4, 2) := by decide +kernel
theorem dX6_split_169 : decode cX6_split 169 = .ok (.if_icmp .ne 15, 3) := by decide +kernel
theorem dX6_split_172 : decode cX6_split 172 = .ok (.aload_n 0, 1) := by decide +kernel
theorem dX6_split_173 : decode cX6_split 173 = .ok (.getfield 46, 3) := by decide +kernel
theorem dX6_split_176 : decode cX6_split 176 = .ok (.iload 7, 2) := by decide +kernel
theorem dX6_split_178 : decode cX6_split 178 = .ok (.iload 4, 2) := by decide +kernel
theorem dX6_split_180 : decode cX6_split 180 = .ok (.iastore, 1) := by decide +kernel
theorem dX6_split_181 : decode cX6_split 181 = .ok (.iconst 1, 1) := by decide +kernel
theorem dX6_split_182 : decode cX6_split 182 = .ok (.istore 6, 2) := by decide +kernel
theorem dX6_split_184 : decode cX6_split 184 = .ok (.iinc 7 1, 3) := by decide +kernel
theorem dX6_split_187 : decode cX6_split 187 = .ok (.goto (-63), 3) := by decide +kernel
theorem dX6_split_190 : decode cX6_split 190 = .ok (.goto (-77), 3) := by decide +kernel
theorem dX6_split_193 : decode cX6_split 193 = .ok (.iload 4, 2) := by decide +kernel
theorem dX6_split_195 : decode cX6_split 195 = .ok (.ireturn, 1) := by decide +kernel
theorem dX6_size_0 : decode cX6_size 0 = .ok (.iconst 0, 1) := by decide +kernel
theorem dX6_size_1 : decode cX6_size 1 = .ok (.istore_n 2, 1) := by decide +kernel
theorem dX6_size_2 : decode cX6_size 2 = .ok (.iconst 0, 1) := by decide +kernel
theorem dX6_size_3 : decode cX6_size 3 = .ok (.istore_n 3, 1) := by decide +kernel
theorem dX6_size_4 : decode cX6_size 4 = .ok (.iload_n 3, 1) := by decide +kernel
theorem dX6_size_5 : decode cX6_size 5 = .ok (.aload_n 0, 1) := by decide +kernel
theorem dX6_size_6 : decode cX6_size 6 = .ok (.getfield 78, 3) := by decide +kernel
theorem dX6_size_9 : decode cX6_size 9 = .ok (.if_icmp .ge 27, 3) := by decide +kernel
theorem dX6_size_12 : decode cX6_size 12 = .ok (.iload_n 2, 1) := by decide +kernel
theorem dX6_size_13 : decode cX6_size 13 = .ok (.aload_n 0, 1) := by decide +kernel
theorem dX6_size_14 : decode cX6_size 14 = .ok (.getfield 46, 3) := by decide +kernel
theorem dX6_size_17 : decode cX6_size 17 = .ok (.iload_n 3, 1) := by decide +kernel
theorem dX6_size_18 : decode cX6_size 18 = .ok (.iaload, 1) := by decide +kernel
theorem dX6_size_19 : decode cX6_size 19 = .ok (.iload_n 1, 1) := by decide +kernel
theorem dX6_size_20 : decode cX6_size 20 = .ok (.if_icmp .ne 7, 3) := by decide +kernel
theorem dX6_size_23 : decode cX6_size 23 = .ok (.iconst 1, 1) := by decide +kernel
theorem dX6_size_24 : decode cX6_size 24 = .ok (.goto 4, 3) := by decide +kernel
theorem dX6_size_27 : decode cX6_size 27 = .ok (.iconst 0, 1) := by decide +kernel
theorem dX6_size_28 : decode cX6_size 28 = .ok (.iadd, 1) := by decide +kernel
theorem dX6_size_29 : decode cX6_size 29 = .ok (.istore_n 2, 1) := by decide +kernel
theorem dX6_size_30 : decode cX6_size 30 = .ok (.iinc 3 1, 3) := by decide +kernel
theorem dX6_size_33 : decode cX6_size 33 = .ok (.goto (-29), 3) := by decide +kernel
theorem dX6_size_36 : decode cX6_size 36 = .ok (.iload_n 2, 1) := by decide +kernel
theorem dX6_size_37 : decode cX6_size 37 = .ok (.ireturn, 1) := by decide +kernel
theorem dX6_merge_0 : decode cX6_merge 0 = .ok (.aload_n 0, 1) := by decide +kernel
theorem dX6_merge_1 : decode cX6_merge 1 = .ok (.iload_n 1, 1) := by decide +kernel
theorem dX6_merge_2 : decode cX6_merge 2 = .ok (.invokevirtual 170, 3) := by decide +kernel
theorem dX6_merge_5 : decode cX6_merge 5 = .ok (.ifCond .eq 15, 3) := by decide +kernel
theorem dX6_merge_8 : decode cX6_merge 8 = .ok (.aload_n 0, 1) := by decide +kernel
theorem dX6_merge_9 : decode cX6_merge 9 = .ok (.iload_n 2, 1) := by decide +kernel
theorem dX6_merge_10 : decode cX6_merge 10 = .ok (.invokevirtual 167, 3) := by decide +kernel
theorem dX6_merge_13 : decode cX6_merge 13 = .ok (.ifCond .eq 7, 3) := by decide +kernel
theorem dX6_merge_16 : decode cX6_merge 16 = .ok (.iconst 1, 1) := by decide +kernel
theorem dX6_merge_17 : decode cX6_merge 17 = .ok (.goto 4, 3) := by decide +kernel
theorem dX6_merge_20 : decode cX6_merge 20 = .ok (.iconst 0, 1) := by decide +kernel
theorem dX6_merge_21 : decode cX6_merge 21 = .ok (.istore_n 3, 1) := by decide +kernel
theorem dX6_merge_22 : decode cX6_merge 22 = .ok (.iload_n 3, 1) := by decide +kernel
theorem dX6_merge_23 : decode cX6_merge 23 = .ok (.ifCond .eq 34, 3) := by decide +kernel
theorem dX6_merge_26 : decode cX6_merge 26 = .ok (.aload_n 0, 1) := by decide +kernel
theorem dX6_merge_27 : decode cX6_merge 27 = .ok (.getfield 58, 3) := by decide +kernel
theorem dX6_merge_30 : decode cX6_merge 30 = .ok (.iload_n 1, 1) := by decide +kernel
theorem dX6_merge_31 : decode cX6_merge 31 = .ok (.iaload, 1) := by decide +kernel
theorem dX6_merge_32 : decode cX6_merge 32 = .ok (.ifCond .ne 25, 3) := by decide +kernel
theorem dX6_merge_35 : decode cX6_merge 35 = .ok (.aload_n 0, 1) := by decide +kernel
theorem dX6_merge_36 : decode cX6_merge 36 = .ok (.iload_n 2, 1) := by decide +kernel
theorem dX6_merge_37 : decode cX6_merge 37 = .ok (.invokevirtual 118, 3) := by decide +kernel
theorem dX6_merge_40 : decode cX6_merge 40 = .ok (.ifCond .eq 17, 3) := by decide +kernel
theorem dX6_merge_43 : decode cX6_merge 43 = .ok (.aload_n 0, 1) := by decide +kernel
theorem dX6_merge_44 : decode cX6_merge 44 = .ok (.getfield 46, 3) := by decide +kernel
theorem dX6_merge_47 : decode cX6_merge 47 = .ok (.iload_n 2, 1) := by decide +kernel
theorem dX6_merge_48 : decode cX6_merge 48 = .ok (.iaload, 1) := by decide +kernel
theorem dX6_merge_49 : decode cX6_merge 49 = .ok (.iload_n 1, 1) := by decide +kernel
theorem dX6_merge_50 : decode cX6_merge 50 = .ok (.if_icmp .eq 7, 3) := by decide +kernel
theorem dX6_merge_53 : decode cX6_merge 53 = .ok (.iconst 1, 1) := by decide +kernel
theorem dX6_merge_54 : decode cX6_merge 54 = .ok (.goto 4, 3) := by decide +kernel
theorem dX6_merge_57 : decode cX6_merge 57 = .ok (.iconst 0, 1) := by decide +kernel
theorem dX6_merge_58 : decode cX6_merge 58 = .ok (.istore 4, 2) := by decide +kernel
theorem dX6_merge_60 : decode cX6_merge 60 = .ok (.aload_n 0, 1) := by decide +kernel
theorem dX6_merge_61 : decode cX6_merge 61 = .ok (.iload_n 3, 1) := by decide +kernel
theorem dX6_merge_62 : decode cX6_merge 62 = .ok (.ifCond .ne 7, 3) := by decide +kernel
theorem dX6_merge_65 : decode cX6_merge 65 = .ok (.iconst 1, 1) := by decide +kernel
theorem dX6_merge_66 : decode cX6_merge 66 = .ok (.goto 4, 3) := by decide +kernel
theorem dX6_merge_69 : decode cX6_merge 69 = .ok (.iconst 0, 1) := by decide +kernel
theorem dX6_merge_70 : decode cX6_merge 70 = .ok (.iload 4, 2) := by decide +kernel
theorem dX6_merge_72 : decode cX6_merge 72 = .ok (.ifCond .ne 7, 3) := by decide +kernel
theorem dX6_merge_75 : decode cX6_merge 75 = .ok (.iconst 1, 1) := by decide +kernel
theorem dX6_merge_76 : decode cX6_merge 76 = .ok (.goto 4, 3) := by decide +kernel
theorem dX6_merge_79 : decode cX6_merge 79 = .ok (.iconst 0, 1) := by decide +kernel
theorem dX6_merge_80 : decode cX6_merge 80 = .ok (.iconst 0, 1) := by decide +kernel
theorem dX6_merge_81 : decode cX6_merge 81 = .ok (.invokevirtual 90, 3) := by decide +kernel
theorem dX6_merge_84 : decode cX6_merge 84 = .ok (.ifCond .eq 5, 3) := by decide +kernel
theorem dX6_merge_87 : decode cX6_merge 87 = .ok (.iconst 0, 1) := by decide +kernel
theorem dX6_merge_88 : decode cX6_merge 88 = .ok (.ireturn, 1) := by decide +kernel
theorem dX6_merge_89 : decode cX6_merge 89 = .ok (.aload_n 0, 1) := by decide +kernel
theorem dX6_merge_90 : decode cX6_merge 90 = .ok (.iload_n 1, 1) := by decide +kernel
theorem dX6_merge_91 : decode cX6_merge 91 = .ok (.invokevirtual 124, 3) := by decide +kernel
theorem dX6_merge_94 : decode cX6_merge 94 = .ok (.istore 5, 2) := by decide +kernel
theorem dX6_merge_96 : decode cX6_merge 96 = .ok (.aload_n 0, 1) := by decide +kernel
theorem dX6_merge_97 : decode cX6_merge 97 = .ok (.getfield 49, 3) := by decide +kernel
theorem dX6_merge_100 : decode cX6_merge 100 = .ok (.iload 5, 2) := by decide +kernel
theorem dX6_merge_102 : decode cX6_merge 102 = .ok (.iload_n 2, 1) := by decide +kernel
theorem dX6_merge_103 : decode cX6_merge 103 = .ok (.iastore, 1) := by decide +kernel
theorem dX6_merge_104 : decode cX6_merge 104 = .ok (.aload_n 0, 1) := by decide +kernel
theorem dX6_merge_105 : decode cX6_merge 105 = .ok (.getfield 55, 3) := by decide +kernel
theorem dX6_merge_108 : decode cX6_merge 108 = .ok (.iload 5, 2) := by decide +kernel
theorem dX6_merge_110 : decode cX6_merge 110 = .ok (.iconst 5, 1) := by decide +kernel
theorem dX6_merge_111 : decode cX6_merge 111 = .ok (.iastore, 1) := by decide +kernel
theorem dX6_merge_112 : decode cX6_merge 112 = .ok (.iconst 0, 1) := by decide +kernel
theorem dX6_merge_113 : decode cX6_merge 113 = .ok (.istore 6, 2) := by decide +kernel
theorem dX6_merge_115 : decode cX6_merge 115 = .ok (.iload 6, 2) := by decide +kernel
theorem dX6_merge_117 : decode cX6_merge 117 = .ok (.aload_n 0, 1) := by decide +kernel
theorem dX6_merge_118 : decode cX6_merge 118 = .ok (.getfield 78, 3) := by decide +kernel
theorem dX6_merge_121 : decode cX6_merge 121 = .ok (.if_icmp .ge 33, 3) := by decide +kernel
theorem dX6_merge_124 : decode cX6_merge 124 = .ok (.aload_n 0, 1) := by decide +kernel
theorem dX6_merge_125 : decode cX6_merge 125 = .ok (.getfield 46, 3) := by decide +kernel
theorem dX6_merge_128 : decode cX6_merge 128 = .ok (.iload 6, 2) := by decide +kernel
theorem dX6_merge_130 : decode cX6_merge 130 = .ok (.iaload, 1) := by decide +kernel
theorem dX6_merge_131 : decode cX6_merge 131 = .ok (.iload_n 1, 1) := by decide +kernel
theorem dX6_merge_132 : decode cX6_merge 132 = .ok (.if_icmp .ne 16, 3) := by decide +kernel
theorem dX6_merge_135 : decode cX6_merge 135 = .ok (.aload_n 0, 1) := by decide +kernel
theorem dX6_merge_136 : decode cX6_merge 136 = .ok (.getfield 46, 3) := by decide +kernel
theorem dX6_merge_139 : decode cX6_merge 139 = .ok (.iload 6, 2) := by decide +kernel
theorem dX6_merge_141 : decode cX6_merge 141 = .ok (.aload_n 0, 1) := by decide +kernel
theorem dX6_merge_142 : decode cX6_merge 142 = .ok (.getfield 46, 3) := by decide +kernel
theorem dX6_merge_145 : decode cX6_merge 145 = .ok (.iload_n 2, 1) := by decide +kernel
theorem dX6_merge_146 : decode cX6_merge 146 = .ok (.iaload, 1) := by decide +kernel
theorem dX6_merge_147 : decode cX6_merge 147 = .ok (.iastore, 1) := by decide +kernel
theorem dX6_merge_148 : decode cX6_merge 148 = .ok (.iinc 6 1, 3) := by decide +kernel
theorem dX6_merge_151 : decode cX6_merge 151 = .ok (.goto (-36), 3) := by decide +kernel
theorem dX6_merge_154 : decode cX6_merge 154 = .ok (.aload_n 0, 1) := by decide +kernel
theorem dX6_merge_155 : decode cX6_merge 155 = .ok (.getfield 58, 3) := by decide +kernel
theorem dX6_merge_158 : decode cX6_merge 158 = .ok (.iload_n 1, 1) := by decide +kernel
theorem dX6_merge_159 : decode cX6_merge 159 = .ok (.iconst 3, 1) := by decide +kernel
theorem dX6_merge_160 : decode cX6_merge 160 = .ok (.iastore, 1) := by decide +kernel
theorem dX6_merge_161 : decode cX6_merge 161 = .ok (.aload_n 0, 1) := by decide +kernel
theorem dX6_merge_162 : decode cX6_merge 162 = .ok (.getfield 61, 3) := by decide +kernel
theorem dX6_merge_165 : decode cX6_merge 165 = .ok (.iload_n 1, 1) := by decide +kernel
theorem dX6_merge_166 : decode cX6_merge 166 = .ok (.iconst (-1), 1) := by decide +kernel
theorem dX6_merge_167 : decode cX6_merge 167 = .ok (.iastore, 1) := by decide +kernel
theorem dX6_merge_168 : decode cX6_merge 168 = .ok (.aload_n 0, 1) := by decide +kernel
theorem dX6_merge_169 : decode cX6_merge 169 = .ok (.aload_n 0, 1) := by decide +kernel
theorem dX6_merge_170 : decode cX6_merge 170 = .ok (.getfield 46, 3) := by decide +kernel
theorem dX6_merge_173 : decode cX6_merge 173 = .ok (.iload_n 2, 1) := by decide +kernel
theorem dX6_merge_174 : decode cX6_merge 174 = .ok (.iaload, 1) := by decide +kernel
theorem dX6_merge_175 : decode cX6_merge 175 = .ok (.invokevirtual 173, 3) := by decide +kernel
theorem dX6_merge_178 : decode cX6_merge 178 = .ok (.ireturn, 1) := by decide +kernel
theorem dX6_watch_0 : decode cX6_watch 0 = .ok (.aload_n 0, 1) := by decide +kernel
theorem dX6_watch_1 : decode cX6_watch 1 = .ok (.iload_n 1, 1) := by decide +kernel
theorem dX6_watch_2 : decode cX6_watch 2 = .ok (.invokevirtual 170, 3) := by decide +kernel
theorem dX6_watch_5 : decode cX6_watch 5 = .ok (.ifCond .eq 14, 3) := by decide +kernel
theorem dX6_watch_8 : decode cX6_watch 8 = .ok (.iload_n 2, 1) := by decide +kernel
theorem dX6_watch_9 : decode cX6_watch 9 = .ok (.invokestatic 94, 3) := by decide +kernel
theorem dX6_watch_12 : decode cX6_watch 12 = .ok (.ifCond .eq 7, 3) := by decide +kernel
theorem dX6_watch_15 : decode cX6_watch 15 = .ok (.iconst 1, 1) := by decide +kernel
theorem dX6_watch_16 : decode cX6_watch 16 = .ok (.goto 4, 3) := by decide +kernel
theorem dX6_watch_19 : decode cX6_watch 19 = .ok (.iconst 0, 1) := by decide +kernel
theorem dX6_watch_20 : decode cX6_watch 20 = .ok (.istore 5, 2) := by decide +kernel
theorem dX6_watch_22 : decode cX6_watch 22 = .ok (.iload 5, 2) := by decide +kernel
theorem dX6_watch_24 : decode cX6_watch 24 = .ok (.ifCond .eq 46, 3) := by decide +kernel
theorem dX6_watch_27 : decode cX6_watch 27 = .ok (.iload_n 3, 1) := by decide +kernel
theorem dX6_watch_28 : decode cX6_watch 28 = .ok (.iconst 0, 1) := by decide +kernel
theorem dX6_watch_29 : decode cX6_watch 29 = .ok (.aload_n 0, 1) := by decide +kernel
theorem dX6_watch_30 : decode cX6_watch 30 = .ok (.getfield 25, 3) := by decide +kernel
theorem dX6_watch_33 : decode cX6_watch 33 = .ok (.iload_n 2, 1) := by decide +kernel
theorem dX6_watch_34 : decode cX6_watch 34 = .ok (.iaload, 1) := by decide +kernel
theorem dX6_watch_35 : decode cX6_watch 35 = .ok (.iconst 1, 1) := by decide +kernel
theorem dX6_watch_36 : decode cX6_watch 36 = .ok (.isub, 1) := by decide +kernel
theorem dX6_watch_37 : decode cX6_watch 37 = .ok (.invokestatic 74, 3) := by decide +kernel
theorem dX6_watch_40 : decode cX6_watch 40 = .ok (.ifCond .eq 30, 3) := by decide +kernel
theorem dX6_watch_43 : decode cX6_watch 43 = .ok (.iload 4, 2) := by decide +kernel
theorem dX6_watch_45 : decode cX6_watch 45 = .ok (.iconst 0, 1) := by decide +kernel
theorem dX6_watch_46 : decode cX6_watch 46 = .ok (.aload_n 0, 1) := by decide +kernel
theorem dX6_watch_47 : decode cX6_watch 47 = .ok (.getfield 25, 3) := by decide +kernel
theorem dX6_watch_50 : decode cX6_watch 50 = .ok (.iload_n 2, 1) := by decide +kernel
theorem dX6_watch_51 : decode cX6_watch 51 = .ok (.iaload, 1) := by decide +kernel
theorem dX6_watch_52 : decode cX6_watch 52 = .ok (.iconst 1, 1) := by decide +kernel
theorem dX6_watch_53 : decode cX6_watch 53 = .ok (.isub, 1) := by decide +kernel
theorem dX6_watch_54 : decode cX6_watch 54 = .ok (.invokestatic 74, 3) := by decide +kernel
theorem dX6_watch_57 : decode cX6_watch 57 = .ok (.ifCond .eq 13, 3) := by decide +kernel
theorem dX6_watch_60 : decode cX6_watch 60 = .ok (.iload_n 3, 1) := by decide +kernel
theorem dX6_watch_61 : decode cX6_watch 61 = .ok (.iload 4, 2) := by decide +kernel
theorem dX6_watch_63 : decode cX6_watch 63 = .ok (.if_icmp .eq 7, 3) := by decide +kernel
theorem dX6_watch_66 : decode cX6_watch 66 = .ok (.iconst 1, 1) := by decide +kernel
theorem dX6_watch_67 : decode cX6_watch 67 = .ok (.goto 4, 3) := by decide +kernel
theorem dX6_watch_70 : decode cX6_watch 70 = .ok (.iconst 0, 1) := by decide +kernel
theorem dX6_watch_71 : decode cX6_watch 71 = .ok (.istore 6, 2) := by decide +kernel
theorem dX6_watch_73 : decode cX6_watch 73 = .ok (.aload_n 0, 1) := by decide +kernel
theorem dX6_watch_74 : decode cX6_watch 74 = .ok (.iload 5, 2) := by decide +kernel
theorem dX6_watch_76 : decode cX6_watch 76 = .ok (.ifCond .ne 7, 3) := by decide +kernel
theorem dX6_watch_79 : decode cX6_watch 79 = .ok (.iconst 1, 1) := by decide +kernel
theorem dX6_watch_80 : decode cX6_watch 80 = .ok (.goto 4, 3) := by decide +kernel
theorem dX6_watch_83 : decode cX6_watch 83 = .ok (.iconst 0, 1) := by decide +kernel
theorem dX6_watch_84 : decode cX6_watch 84 = .ok (.iload 6, 2) := by decide +kernel
theorem dX6_watch_86 : decode cX6_watch 86 = .ok (.ifCond .ne 7, 3) := by decide +kernel
theorem dX6_watch_89 : decode cX6_watch 89 = .ok (.iconst 1, 1) := by decide +kernel
theorem dX6_watch_90 : decode cX6_watch 90 = .ok (.goto 4, 3) := by decide +kernel
theorem dX6_watch_93 : decode cX6_watch 93 = .ok (.iconst 0, 1) := by decide +kernel
theorem dX6_watch_94 : decode cX6_watch 94 = .ok (.iload 5, 2) := by decide +kernel
theorem dX6_watch_96 : decode cX6_watch 96 = .ok (.ifCond .eq 16, 3) := by decide +kernel
theorem dX6_watch_99 : decode cX6_watch 99 = .ok (.aload_n 0, 1) := by decide +kernel
theorem dX6_watch_100 : decode cX6_watch 100 = .ok (.getfield 58, 3) := by decide +kernel
theorem dX6_watch_103 : decode cX6_watch 103 = .ok (.iload_n 1, 1) := by decide +kernel
theorem dX6_watch_104 : decode cX6_watch 104 = .ok (.iaload, 1) := by decide +kernel
theorem dX6_watch_105 : decode cX6_watch 105 = .ok (.ifCond .eq 7, 3) := by decide +kernel
theorem dX6_watch_108 : decode cX6_watch 108 = .ok (.iconst 1, 1) := by decide +kernel
theorem dX6_watch_109 : decode cX6_watch 109 = .ok (.goto 4, 3) := by decide +kernel
theorem dX6_watch_112 : decode cX6_watch 112 = .ok (.iconst 0, 1) := by decide +kernel
theorem dX6_watch_113 : decode cX6_watch 113 = .ok (.invokevirtual 90, 3) := by decide +kernel
theorem dX6_watch_116 : decode cX6_watch 116 = .ok (.ifCond .eq 4, 3) := by decide +kernel
theorem dX6_watch_119 : decode cX6_watch 119 = .ok (.return_, 1) := by decide +kernel
theorem dX6_watch_120 : decode cX6_watch 120 = .ok (.aload_n 0, 1) := by decide +kernel
theorem dX6_watch_121 : decode cX6_watch 121 = .ok (.getfield 61, 3) := by decide +kernel
theorem dX6_watch_124 : decode cX6_watch 124 = .ok (.iload_n 1, 1) := by decide +kernel
theorem dX6_watch_125 : decode cX6_watch 125 = .ok (.iload_n 2, 1) := by decide +kernel
theorem dX6_watch_126 : decode cX6_watch 126 = .ok (.iastore, 1) := by decide +kernel
theorem dX6_watch_127 : decode cX6_watch 127 = .ok (.aload_n 0, 1) := by decide +kernel
theorem dX6_watch_128 : decode cX6_watch 128 = .ok (.getfield 64, 3) := by decide +kernel
theorem dX6_watch_131 : decode cX6_watch 131 = .ok (.iload_n 1, 1) := by decide +kernel
theorem dX6_watch_132 : decode cX6_watch 132 = .ok (.iload_n 3, 1) := by decide +kernel
theorem dX6_watch_133 : decode cX6_watch 133 = .ok (.iastore, 1) := by decide +kernel
theorem dX6_watch_134 : decode cX6_watch 134 = .ok (.aload_n 0, 1) := by decide +kernel
theorem dX6_watch_135 : decode cX6_watch 135 = .ok (.getfield 67, 3) := by decide +kernel
theorem dX6_watch_138 : decode cX6_watch 138 = .ok (.iload_n 1, 1) := by decide +kernel
theorem dX6_watch_139 : decode cX6_watch 139 = .ok (.iload 4, 2) := by decide +kernel
theorem dX6_watch_141 : decode cX6_watch 141 = .ok (.iastore, 1) := by decide +kernel
theorem dX6_watch_142 : decode cX6_watch 142 = .ok (.return_, 1) := by decide +kernel
theorem dX6_state_0 : decode cX6_state 0 = .ok (.aload_n 0, 1) := by decide +kernel
theorem dX6_state_1 : decode cX6_state 1 = .ok (.iload_n 1, 1) := by decide +kernel
theorem dX6_state_2 : decode cX6_state 2 = .ok (.invokevirtual 170, 3) := by decide +kernel
theorem dX6_state_5 : decode cX6_state 5 = .ok (.istore_n 3, 1) := by decide +kernel
theorem dX6_state_6 : decode cX6_state 6 = .ok (.aload_n 0, 1) := by decide +kernel
theorem dX6_state_7 : decode cX6_state 7 = .ok (.iload_n 3, 1) := by decide +kernel
theorem dX6_state_8 : decode cX6_state 8 = .ok (.ifCond .ne 7, 3) := by decide +kernel
theorem dX6_state_11 : decode cX6_state 11 = .ok (.iconst 1, 1) := by decide +kernel
theorem dX6_state_12 : decode cX6_state 12 = .ok (.goto 4, 3) := by decide +kernel
theorem dX6_state_15 : decode cX6_state 15 = .ok (.iconst 0, 1) := by decide +kernel
theorem dX6_state_16 : decode cX6_state 16 = .ok (.iload_n 2, 1) := by decide +kernel
theorem dX6_state_17 : decode cX6_state 17 = .ok (.iconst 0, 1) := by decide +kernel
theorem dX6_state_18 : decode cX6_state 18 = .ok (.iconst 2, 1) := by decide +kernel
theorem dX6_state_19 : decode cX6_state 19 = .ok (.invokestatic 74, 3) := by decide +kernel
theorem dX6_state_22 : decode cX6_state 22 = .ok (.ifCond .ne 7, 3) := by decide +kernel
theorem dX6_state_25 : decode cX6_state 25 = .ok (.iconst 1, 1) := by decide +kernel
theorem dX6_state_26 : decode cX6_state 26 = .ok (.goto 4, 3) := by decide +kernel
theorem dX6_state_29 : decode cX6_state 29 = .ok (.iconst 0, 1) := by decide +kernel
theorem dX6_state_30 : decode cX6_state 30 = .ok (.iload_n 3, 1) := by decide +kernel
theorem dX6_state_31 : decode cX6_state 31 = .ok (.ifCond .eq 27, 3) := by decide +kernel
theorem dX6_state_34 : decode cX6_state 34 = .ok (.aload_n 0, 1) := by decide +kernel
theorem dX6_state_35 : decode cX6_state 35 = .ok (.getfield 58, 3) := by decide +kernel
theorem dX6_state_38 : decode cX6_state 38 = .ok (.iload_n 1, 1) := by decide +kernel
theorem dX6_state_39 : decode cX6_state 39 = .ok (.iaload, 1) := by decide +kernel
theorem dX6_state_40 : decode cX6_state 40 = .ok (.iload_n 2, 1) := by decide +kernel
theorem dX6_state_41 : decode cX6_state 41 = .ok (.if_icmp .eq 13, 3) := by decide +kernel
theorem dX6_state_44 : decode cX6_state 44 = .ok (.aload_n 0, 1) := by decide +kernel
theorem dX6_state_45 : decode cX6_state 45 = .ok (.getfield 58, 3) := by decide +kernel
theorem dX6_state_48 : decode cX6_state 48 = .ok (.iload_n 1, 1) := by decide +kernel
theorem dX6_state_49 : decode cX6_state 49 = .ok (.iaload, 1) := by decide +kernel
theorem dX6_state_50 : decode cX6_state 50 = .ok (.iconst 3, 1) := by decide +kernel
theorem dX6_state_51 : decode cX6_state 51 = .ok (.if_icmp .ne 7, 3) := by decide +kernel
theorem dX6_state_54 : decode cX6_state 54 = .ok (.iconst 1, 1) := by decide +kernel
theorem dX6_state_55 : decode cX6_state 55 = .ok (.goto 4, 3) := by decide +kernel
theorem dX6_state_58 : decode cX6_state 58 = .ok (.iconst 0, 1) := by decide +kernel
theorem dX6_state_59 : decode cX6_state 59 = .ok (.invokevirtual 90, 3) := by decide +kernel
theorem dX6_state_62 : decode cX6_state 62 = .ok (.ifCond .eq 4, 3) := by decide +kernel
theorem dX6_state_65 : decode cX6_state 65 = .ok (.return_, 1) := by decide +kernel
theorem dX6_state_66 : decode cX6_state 66 = .ok (.aload_n 0, 1) := by decide +kernel
theorem dX6_state_67 : decode cX6_state 67 = .ok (.getfield 58, 3) := by decide +kernel
theorem dX6_state_70 : decode cX6_state 70 = .ok (.iload_n 1, 1) := by decide +kernel
theorem dX6_state_71 : decode cX6_state 71 = .ok (.iload_n 2, 1) := by decide +kernel
theorem dX6_state_72 : decode cX6_state 72 = .ok (.iastore, 1) := by decide +kernel
theorem dX6_state_73 : decode cX6_state 73 = .ok (.return_, 1) := by decide +kernel
theorem dX6_share_0 : decode cX6_share 0 = .ok (.aload_n 0, 1) := by decide +kernel
theorem dX6_share_1 : decode cX6_share 1 = .ok (.iload_n 1, 1) := by decide +kernel
theorem dX6_share_2 : decode cX6_share 2 = .ok (.invokevirtual 167, 3) := by decide +kernel
theorem dX6_share_5 : decode cX6_share 5 = .ok (.ifCond .eq 20, 3) := by decide +kernel
theorem dX6_share_8 : decode cX6_share 8 = .ok (.aload_n 0, 1) := by decide +kernel
theorem dX6_share_9 : decode cX6_share 9 = .ok (.iload_n 2, 1) := by decide +kernel
theorem dX6_share_10 : decode cX6_share 10 = .ok (.invokevirtual 167, 3) := by decide +kernel
theorem dX6_share_13 : decode cX6_share 13 = .ok (.ifCond .eq 12, 3) := by decide +kernel
theorem dX6_share_16 : decode cX6_share 16 = .ok (.iload_n 1, 1) := by decide +kernel
theorem dX6_share_17 : decode cX6_share 17 = .ok (.iload_n 2, 1) := by decide +kernel
theorem dX6_share_18 : decode cX6_share 18 = .ok (.if_icmp .eq 7, 3) := by decide +kernel
theorem dX6_share_21 : decode cX6_share 21 = .ok (.iconst 1, 1) := by decide +kernel
theorem dX6_share_22 : decode cX6_share 22 = .ok (.goto 4, 3) := by decide +kernel
theorem dX6_share_25 : decode cX6_share 25 = .ok (.iconst 0, 1) := by decide +kernel
theorem dX6_share_26 : decode cX6_share 26 = .ok (.istore_n 3, 1) := by decide +kernel
theorem dX6_share_27 : decode cX6_share 27 = .ok (.iload_n 3, 1) := by decide +kernel
theorem dX6_share_28 : decode cX6_share 28 = .ok (.ifCond .eq 21, 3) := by decide +kernel
theorem dX6_share_31 : decode cX6_share 31 = .ok (.aload_n 0, 1) := by decide +kernel
theorem dX6_share_32 : decode cX6_share 32 = .ok (.getfield 34, 3) := by decide +kernel
theorem dX6_share_35 : decode cX6_share 35 = .ok (.iload_n 1, 1) := by decide +kernel
theorem dX6_share_36 : decode cX6_share 36 = .ok (.iload_n 2, 1) := by decide +kernel
theorem dX6_share_37 : decode cX6_share 37 = .ok (.if_icmp .le 7, 3) := by decide +kernel
theorem dX6_share_40 : decode cX6_share 40 = .ok (.iload_n 1, 1) := by decide +kernel
theorem dX6_share_41 : decode cX6_share 41 = .ok (.goto 4, 3) := by decide +kernel
theorem dX6_share_44 : decode cX6_share 44 = .ok (.iload_n 2, 1) := by decide +kernel
theorem dX6_share_45 : decode cX6_share 45 = .ok (.iaload, 1) := by decide +kernel
theorem dX6_share_46 : decode cX6_share 46 = .ok (.goto 4, 3) := by decide +kernel
theorem dX6_share_49 : decode cX6_share 49 = .ok (.iconst 0, 1) := by decide +kernel
theorem dX6_share_50 : decode cX6_share 50 = .ok (.istore 4, 2) := by decide +kernel
theorem dX6_share_52 : decode cX6_share 52 = .ok (.iload_n 3, 1) := by decide +kernel
theorem dX6_share_53 : decode cX6_share 53 = .ok (.ifCond .eq 25, 3) := by decide +kernel
theorem dX6_share_56 : decode cX6_share 56 = .ok (.aload_n 0, 1) := by decide +kernel
theorem dX6_share_57 : decode cX6_share 57 = .ok (.aload_n 0, 1) := by decide +kernel
theorem dX6_share_58 : decode cX6_share 58 = .ok (.getfield 40, 3) := by decide +kernel
theorem dX6_share_61 : decode cX6_share 61 = .ok (.iload_n 1, 1) := by decide +kernel
theorem dX6_share_62 : decode cX6_share 62 = .ok (.iaload, 1) := by decide +kernel
theorem dX6_share_63 : decode cX6_share 63 = .ok (.aload_n 0, 1) := by decide +kernel
theorem dX6_share_64 : decode cX6_share 64 = .ok (.getfield 40, 3) := by decide +kernel
theorem dX6_share_67 : decode cX6_share 67 = .ok (.iload_n 2, 1) := by decide +kernel
theorem dX6_share_68 : decode cX6_share 68 = .ok (.iaload, 1) := by decide +kernel
theorem dX6_share_69 : decode cX6_share 69 = .ok (.ior, 1) := by decide +kernel
theorem dX6_share_70 : decode cX6_share 70 = .ok (.iload 4, 2) := by decide +kernel
theorem dX6_share_72 : decode cX6_share 72 = .ok (.invokevirtual 100, 3) := by decide +kernel
theorem dX6_share_75 : decode cX6_share 75 = .ok (.goto 4, 3) := by decide +kernel
theorem dX6_share_78 : decode cX6_share 78 = .ok (.iconst 0, 1) := by decide +kernel
theorem dX6_share_79 : decode cX6_share 79 = .ok (.istore 5, 2) := by decide +kernel
theorem dX6_share_81 : decode cX6_share 81 = .ok (.aload_n 0, 1) := by decide +kernel
theorem dX6_share_82 : decode cX6_share 82 = .ok (.iload_n 3, 1) := by decide +kernel
theorem dX6_share_83 : decode cX6_share 83 = .ok (.ifCond .ne 7, 3) := by decide +kernel
theorem dX6_share_86 : decode cX6_share 86 = .ok (.iconst 1, 1) := by decide +kernel
theorem dX6_share_87 : decode cX6_share 87 = .ok (.goto 4, 3) := by decide +kernel
theorem dX6_share_90 : decode cX6_share 90 = .ok (.iconst 0, 1) := by decide +kernel
theorem dX6_share_91 : decode cX6_share 91 = .ok (.iload 5, 2) := by decide +kernel
theorem dX6_share_93 : decode cX6_share 93 = .ok (.ifCond .ne 7, 3) := by decide +kernel
theorem dX6_share_96 : decode cX6_share 96 = .ok (.iconst 1, 1) := by decide +kernel
theorem dX6_share_97 : decode cX6_share 97 = .ok (.goto 4, 3) := by decide +kernel
theorem dX6_share_100 : decode cX6_share 100 = .ok (.iconst 0, 1) := by decide +kernel
theorem dX6_share_101 : decode cX6_share 101 = .ok (.iconst 0, 1) := by decide +kernel
theorem dX6_share_102 : decode cX6_share 102 = .ok (.invokevirtual 90, 3) := by decide +kernel
