theorem dX6_squareOf_27 : decode cX6_squareOf 27 = .ok (.lload_n 2, 1) := by decide +kernel
theorem dX6_squareOf_28 : decode cX6_squareOf 28 = .ok (.lload_n 2, 1) := by decide +kernel
theorem dX6_squareOf_29 : decode cX6_squareOf 29 = .ok (.lmul, 1) := by decide +kernel
theorem dX6_squareOf_30 : decode cX6_squareOf 30 = .ok (.lload 4, 2) := by decide +kernel
theorem dX6_squareOf_32 : decode cX6_squareOf 32 = .ok (.lload 4, 2) := by decide +kernel
theorem dX6_squareOf_34 : decode cX6_squareOf 34 = .ok (.lmul, 1) := by decide +kernel
theorem dX6_squareOf_35 : decode cX6_squareOf 35 = .ok (.ladd, 1) := by decide +kernel
theorem dX6_squareOf_36 : decode cX6_squareOf 36 = .ok (.lreturn, 1) := by decide +kernel
theorem dX6_sum_0 : decode cX6_sum 0 = .ok (.iconst 0, 1) := by decide +kernel
theorem dX6_sum_1 : decode cX6_sum 1 = .ok (.istore_n 3, 1) := by decide +kernel
theorem dX6_sum_2 : decode cX6_sum 2 = .ok (.iconst 0, 1) := by decide +kernel
theorem dX6_sum_3 : decode cX6_sum 3 = .ok (.istore 4, 2) := by decide +kernel
theorem dX6_sum_5 : decode cX6_sum 5 = .ok (.iload 4, 2) := by decide +kernel
theorem dX6_sum_7 : decode cX6_sum 7 = .ok (.bipush 32, 2) := by decide +kernel
theorem dX6_sum_9 : decode cX6_sum 9 = .ok (.if_icmp .ge 38, 3) := by decide +kernel
theorem dX6_sum_12 : decode cX6_sum 12 = .ok (.iload_n 3, 1) := by decide +kernel
theorem dX6_sum_13 : decode cX6_sum 13 = .ok (.iload_n 1, 1) := by decide +kernel
theorem dX6_sum_14 : decode cX6_sum 14 = .ok (.iload 4, 2) := by decide +kernel
theorem dX6_sum_16 : decode cX6_sum 16 = .ok (.ishr, 1) := by decide +kernel
theorem dX6_sum_17 : decode cX6_sum 17 = .ok (.iconst 1, 1) := by decide +kernel
theorem dX6_sum_18 : decode cX6_sum 18 = .ok (.iand, 1) := by decide +kernel
theorem dX6_sum_19 : decode cX6_sum 19 = .ok (.iconst 1, 1) := by decide +kernel
theorem dX6_sum_20 : decode cX6_sum 20 = .ok (.if_icmp .ne 18, 3) := by decide +kernel
theorem dX6_sum_23 : decode cX6_sum 23 = .ok (.aload_n 0, 1) := by decide +kernel
theorem dX6_sum_24 : decode cX6_sum 24 = .ok (.getfield 22, 3) := by decide +kernel
theorem dX6_sum_27 : decode cX6_sum 27 = .ok (.bipush 32, 2) := by decide +kernel
theorem dX6_sum_29 : decode cX6_sum 29 = .ok (.iload_n 2, 1) := by decide +kernel
theorem dX6_sum_30 : decode cX6_sum 30 = .ok (.imul, 1) := by decide +kernel
theorem dX6_sum_31 : decode cX6_sum 31 = .ok (.iload 4, 2) := by decide +kernel
theorem dX6_sum_33 : decode cX6_sum 33 = .ok (.iadd, 1) := by decide +kernel
theorem dX6_sum_34 : decode cX6_sum 34 = .ok (.iaload, 1) := by decide +kernel
theorem dX6_sum_35 : decode cX6_sum 35 = .ok (.goto 4, 3) := by decide +kernel
theorem dX6_sum_38 : decode cX6_sum 38 = .ok (.iconst 0, 1) := by decide +kernel
theorem dX6_sum_39 : decode cX6_sum 39 = .ok (.iadd, 1) := by decide +kernel
theorem dX6_sum_40 : decode cX6_sum 40 = .ok (.istore_n 3, 1) := by decide +kernel
theorem dX6_sum_41 : decode cX6_sum 41 = .ok (.iinc 4 1, 3) := by decide +kernel
theorem dX6_sum_44 : decode cX6_sum 44 = .ok (.goto (-39), 3) := by decide +kernel
theorem dX6_sum_47 : decode cX6_sum 47 = .ok (.iload_n 3, 1) := by decide +kernel
theorem dX6_sum_48 : decode cX6_sum 48 = .ok (.ireturn, 1) := by decide +kernel
theorem dX6_isEnough_0 : decode cX6_isEnough 0 = .ok (.aload_n 0, 1) := by decide +kernel
theorem dX6_isEnough_1 : decode cX6_isEnough 1 = .ok (.iload_n 1, 1) := by decide +kernel
theorem dX6_isEnough_2 : decode cX6_isEnough 2 = .ok (.iload_n 2, 1) := by decide +kernel
theorem dX6_isEnough_3 : decode cX6_isEnough 3 = .ok (.iand, 1) := by decide +kernel
theorem dX6_isEnough_4 : decode cX6_isEnough 4 = .ok (.iload_n 3, 1) := by decide +kernel
theorem dX6_isEnough_5 : decode cX6_isEnough 5 = .ok (.invokevirtual 100, 3) := by decide +kernel
theorem dX6_isEnough_8 : decode cX6_isEnough 8 = .ok (.aload_n 0, 1) := by decide +kernel
theorem dX6_isEnough_9 : decode cX6_isEnough 9 = .ok (.getfield 19, 3) := by decide +kernel
theorem dX6_isEnough_12 : decode cX6_isEnough 12 = .ok (.iload_n 3, 1) := by decide +kernel
theorem dX6_isEnough_13 : decode cX6_isEnough 13 = .ok (.iaload, 1) := by decide +kernel
theorem dX6_isEnough_14 : decode cX6_isEnough 14 = .ok (.imul, 1) := by decide +kernel
theorem dX6_isEnough_15 : decode cX6_isEnough 15 = .ok (.aload_n 0, 1) := by decide +kernel
theorem dX6_isEnough_16 : decode cX6_isEnough 16 = .ok (.getfield 16, 3) := by decide +kernel
theorem dX6_isEnough_19 : decode cX6_isEnough 19 = .ok (.iload_n 3, 1) := by decide +kernel
theorem dX6_isEnough_20 : decode cX6_isEnough 20 = .ok (.iaload, 1) := by decide +kernel
theorem dX6_isEnough_21 : decode cX6_isEnough 21 = .ok (.aload_n 0, 1) := by decide +kernel
theorem dX6_isEnough_22 : decode cX6_isEnough 22 = .ok (.iload_n 1, 1) := by decide +kernel
theorem dX6_isEnough_23 : decode cX6_isEnough 23 = .ok (.iload_n 2, 1) := by decide +kernel
theorem dX6_isEnough_24 : decode cX6_isEnough 24 = .ok (.ior, 1) := by decide +kernel
theorem dX6_isEnough_25 : decode cX6_isEnough 25 = .ok (.iload_n 3, 1) := by decide +kernel
theorem dX6_isEnough_26 : decode cX6_isEnough 26 = .ok (.invokevirtual 100, 3) := by decide +kernel
theorem dX6_isEnough_29 : decode cX6_isEnough 29 = .ok (.imul, 1) := by decide +kernel
theorem dX6_isEnough_30 : decode cX6_isEnough 30 = .ok (.if_icmp .lt 7, 3) := by decide +kernel
theorem dX6_isEnough_33 : decode cX6_isEnough 33 = .ok (.iconst 1, 1) := by decide +kernel
theorem dX6_isEnough_34 : decode cX6_isEnough 34 = .ok (.goto 4, 3) := by decide +kernel
theorem dX6_isEnough_37 : decode cX6_isEnough 37 = .ok (.iconst 0, 1) := by decide +kernel
theorem dX6_isEnough_38 : decode cX6_isEnough 38 = .ok (.ireturn, 1) := by decide +kernel
theorem dX6_meets_0 : decode cX6_meets 0 = .ok (.iload 5, 2) := by decide +kernel
theorem dX6_meets_2 : decode cX6_meets 2 = .ok (.i2l, 1) := by decide +kernel
theorem dX6_meets_3 : decode cX6_meets 3 = .ok (.aload_n 0, 1) := by decide +kernel
theorem dX6_meets_4 : decode cX6_meets 4 = .ok (.getfield 43, 3) := by decide +kernel
theorem dX6_meets_7 : decode cX6_meets 7 = .ok (.iload_n 1, 1) := by decide +kernel
theorem dX6_meets_8 : decode cX6_meets 8 = .ok (.iaload, 1) := by decide +kernel
theorem dX6_meets_9 : decode cX6_meets 9 = .ok (.i2l, 1) := by decide +kernel
theorem dX6_meets_10 : decode cX6_meets 10 = .ok (.lsub, 1) := by decide +kernel
theorem dX6_meets_11 : decode cX6_meets 11 = .ok (.aload_n 0, 1) := by decide +kernel
theorem dX6_meets_12 : decode cX6_meets 12 = .ok (.getfield 13, 3) := by decide +kernel
theorem dX6_meets_15 : decode cX6_meets 15 = .ok (.iload_n 2, 1) := by decide +kernel
theorem dX6_meets_16 : decode cX6_meets 16 = .ok (.iaload, 1) := by decide +kernel
theorem dX6_meets_17 : decode cX6_meets 17 = .ok (.i2l, 1) := by decide +kernel
theorem dX6_meets_18 : decode cX6_meets 18 = .ok (.lcmp, 1) := by decide +kernel
theorem dX6_meets_19 : decode cX6_meets 19 = .ok (.ifCond .le 5, 3) := by decide +kernel
theorem dX6_meets_22 : decode cX6_meets 22 = .ok (.iconst 0, 1) := by decide +kernel
theorem dX6_meets_23 : decode cX6_meets 23 = .ok (.ireturn, 1) := by decide +kernel
theorem dX6_meets_24 : decode cX6_meets 24 = .ok (.aload_n 0, 1) := by decide +kernel
theorem dX6_meets_25 : decode cX6_meets 25 = .ok (.aload_n 0, 1) := by decide +kernel
theorem dX6_meets_26 : decode cX6_meets 26 = .ok (.getfield 40, 3) := by decide +kernel
theorem dX6_meets_29 : decode cX6_meets 29 = .ok (.iload_n 1, 1) := by decide +kernel
theorem dX6_meets_30 : decode cX6_meets 30 = .ok (.iaload, 1) := by decide +kernel
theorem dX6_meets_31 : decode cX6_meets 31 = .ok (.iload 4, 2) := by decide +kernel
theorem dX6_meets_33 : decode cX6_meets 33 = .ok (.ior, 1) := by decide +kernel
theorem dX6_meets_34 : decode cX6_meets 34 = .ok (.iload_n 2, 1) := by decide +kernel
theorem dX6_meets_35 : decode cX6_meets 35 = .ok (.invokevirtual 100, 3) := by decide +kernel
theorem dX6_meets_38 : decode cX6_meets 38 = .ok (.ifCond .le 7, 3) := by decide +kernel
theorem dX6_meets_41 : decode cX6_meets 41 = .ok (.iconst 1, 1) := by decide +kernel
theorem dX6_meets_42 : decode cX6_meets 42 = .ok (.goto 4, 3) := by decide +kernel
theorem dX6_meets_45 : decode cX6_meets 45 = .ok (.iconst 0, 1) := by decide +kernel
theorem dX6_meets_46 : decode cX6_meets 46 = .ok (.istore 6, 2) := by decide +kernel
theorem dX6_meets_48 : decode cX6_meets 48 = .ok (.aload_n 0, 1) := by decide +kernel
theorem dX6_meets_49 : decode cX6_meets 49 = .ok (.getfield 37, 3) := by decide +kernel
theorem dX6_meets_52 : decode cX6_meets 52 = .ok (.iload_n 1, 1) := by decide +kernel
theorem dX6_meets_53 : decode cX6_meets 53 = .ok (.iaload, 1) := by decide +kernel
theorem dX6_meets_54 : decode cX6_meets 54 = .ok (.ifCond .lt 103, 3) := by decide +kernel
theorem dX6_meets_57 : decode cX6_meets 57 = .ok (.iload_n 3, 1) := by decide +kernel
theorem dX6_meets_58 : decode cX6_meets 58 = .ok (.ifCond .lt 99, 3) := by decide +kernel
theorem dX6_meets_61 : decode cX6_meets 61 = .ok (.aload_n 0, 1) := by decide +kernel
theorem dX6_meets_62 : decode cX6_meets 62 = .ok (.getfield 37, 3) := by decide +kernel
theorem dX6_meets_65 : decode cX6_meets 65 = .ok (.iload_n 1, 1) := by decide +kernel
theorem dX6_meets_66 : decode cX6_meets 66 = .ok (.iaload, 1) := by decide +kernel
theorem dX6_meets_67 : decode cX6_meets 67 = .ok (.iload_n 3, 1) := by decide +kernel
theorem dX6_meets_68 : decode cX6_meets 68 = .ok (.invokestatic 104, 3) := by decide +kernel
theorem dX6_meets_71 : decode cX6_meets 71 = .ok (.lstore 7, 2) := by decide +kernel
theorem dX6_meets_73 : decode cX6_meets 73 = .ok (.aload_n 0, 1) := by decide +kernel
theorem dX6_meets_74 : decode cX6_meets 74 = .ok (.getfield 7, 3) := by decide +kernel
theorem dX6_meets_77 : decode cX6_meets 77 = .ok (.iload_n 2, 1) := by decide +kernel
theorem dX6_meets_78 : decode cX6_meets 78 = .ok (.iaload, 1) := by decide +kernel
theorem dX6_meets_79 : decode cX6_meets 79 = .ok (.i2l, 1) := by decide +kernel
theorem dX6_meets_80 : decode cX6_meets 80 = .ok (.aload_n 0, 1) := by decide +kernel
theorem dX6_meets_81 : decode cX6_meets 81 = .ok (.getfield 7, 3) := by decide +kernel
theorem dX6_meets_84 : decode cX6_meets 84 = .ok (.iload_n 2, 1) := by decide +kernel
theorem dX6_meets_85 : decode cX6_meets 85 = .ok (.iaload, 1) := by decide +kernel
theorem dX6_meets_86 : decode cX6_meets 86 = .ok (.i2l, 1) := by decide +kernel
theorem dX6_meets_87 : decode cX6_meets 87 = .ok (.lmul, 1) := by decide +kernel
theorem dX6_meets_88 : decode cX6_meets 88 = .ok (.lstore 9, 2) := by decide +kernel
theorem dX6_meets_90 : decode cX6_meets 90 = .ok (.iload 6, 2) := by decide +kernel
theorem dX6_meets_92 : decode cX6_meets 92 = .ok (.ifCond .eq 35, 3) := by decide +kernel
theorem dX6_meets_95 : decode cX6_meets 95 = .ok (.lload 7, 2) := by decide +kernel
theorem dX6_meets_97 : decode cX6_meets 97 = .ok (.lload 9, 2) := by decide +kernel
theorem dX6_meets_99 : decode cX6_meets 99 = .ok (.lcmp, 1) := by decide +kernel
theorem dX6_meets_100 : decode cX6_meets 100 = .ok (.ifCond .gt 23, 3) := by decide +kernel
theorem dX6_meets_103 : decode cX6_meets 103 = .ok (.aload_n 0, 1) := by decide +kernel
theorem dX6_meets_104 : decode cX6_meets 104 = .ok (.aload_n 0, 1) := by decide +kernel
theorem dX6_meets_105 : decode cX6_meets 105 = .ok (.getfield 40, 3) := by decide +kernel
theorem dX6_meets_108 : decode cX6_meets 108 = .ok (.iload_n 1, 1) := by decide +kernel
theorem dX6_meets_109 : decode cX6_meets 109 = .ok (.iaload, 1) := by decide +kernel
theorem dX6_meets_110 : decode cX6_meets 110 = .ok (.iload 4, 2) := by decide +kernel
theorem dX6_meets_112 : decode cX6_meets 112 = .ok (.iload_n 2, 1) := by decide +kernel
theorem dX6_meets_113 : decode cX6_meets 113 = .ok (.invokevirtual 108, 3) := by decide +kernel
theorem dX6_meets_116 : decode cX6_meets 116 = .ok (.ifCond .eq 7, 3) := by decide +kernel
theorem dX6_meets_119 : decode cX6_meets 119 = .ok (.iconst 1, 1) := by decide +kernel
theorem dX6_meets_120 : decode cX6_meets 120 = .ok (.goto 24, 3) := by decide +kernel
theorem dX6_meets_123 : decode cX6_meets 123 = .ok (.iconst 0, 1) := by decide +kernel
theorem dX6_meets_124 : decode cX6_meets 124 = .ok (.goto 20, 3) := by decide +kernel
theorem dX6_meets_127 : decode cX6_meets 127 = .ok (.ldc2_w 111, 3) := by decide +kernel
theorem dX6_meets_130 : decode cX6_meets 130 = .ok (.lload 7, 2) := by decide +kernel
theorem dX6_meets_132 : decode cX6_meets 132 = .ok (.lmul, 1) := by decide +kernel
theorem dX6_meets_133 : decode cX6_meets 133 = .ok (.lload 9, 2) := by decide +kernel
theorem dX6_meets_135 : decode cX6_meets 135 = .ok (.lcmp, 1) := by decide +kernel
theorem dX6_meets_136 : decode cX6_meets 136 = .ok (.ifCond .gt 7, 3) := by decide +kernel
theorem dX6_meets_139 : decode cX6_meets 139 = .ok (.iconst 1, 1) := by decide +kernel
theorem dX6_meets_140 : decode cX6_meets 140 = .ok (.goto 4, 3) := by decide +kernel
theorem dX6_meets_143 : decode cX6_meets 143 = .ok (.iconst 0, 1) := by decide +kernel
theorem dX6_meets_144 : decode cX6_meets 144 = .ok (.istore 11, 2) := by decide +kernel
theorem dX6_meets_146 : decode cX6_meets 146 = .ok (.iload 11, 2) := by decide +kernel
theorem dX6_meets_148 : decode cX6_meets 148 = .ok (.ifCond .eq 7, 3) := by decide +kernel
theorem dX6_meets_151 : decode cX6_meets 151 = .ok (.iconst 1, 1) := by decide +kernel
theorem dX6_meets_152 : decode cX6_meets 152 = .ok (.goto 4, 3) := by decide +kernel
theorem dX6_meets_155 : decode cX6_meets 155 = .ok (.iconst 0, 1) := by decide +kernel
theorem dX6_meets_156 : decode cX6_meets 156 = .ok (.ireturn, 1) := by decide +kernel
theorem dX6_meets_157 : decode cX6_meets 157 = .ok (.iload 6, 2) := by decide +kernel
theorem dX6_meets_159 : decode cX6_meets 159 = .ok (.ifCond .eq 23, 3) := by decide +kernel
theorem dX6_meets_162 : decode cX6_meets 162 = .ok (.aload_n 0, 1) := by decide +kernel
theorem dX6_meets_163 : decode cX6_meets 163 = .ok (.aload_n 0, 1) := by decide +kernel
theorem dX6_meets_164 : decode cX6_meets 164 = .ok (.getfield 40, 3) := by decide +kernel
theorem dX6_meets_167 : decode cX6_meets 167 = .ok (.iload_n 1, 1) := by decide +kernel
theorem dX6_meets_168 : decode cX6_meets 168 = .ok (.iaload, 1) := by decide +kernel
theorem dX6_meets_169 : decode cX6_meets 169 = .ok (.iload 4, 2) := by decide +kernel
theorem dX6_meets_171 : decode cX6_meets 171 = .ok (.iload_n 2, 1) := by decide +kernel
theorem dX6_meets_172 : decode cX6_meets 172 = .ok (.invokevirtual 108, 3) := by decide +kernel
theorem dX6_meets_175 : decode cX6_meets 175 = .ok (.ifCond .eq 7, 3) := by decide +kernel
theorem dX6_meets_178 : decode cX6_meets 178 = .ok (.iconst 2, 1) := by decide +kernel
theorem dX6_meets_179 : decode cX6_meets 179 = .ok (.goto 4, 3) := by decide +kernel
theorem dX6_meets_182 : decode cX6_meets 182 = .ok (.iconst 0, 1) := by decide +kernel
theorem dX6_meets_183 : decode cX6_meets 183 = .ok (.ireturn, 1) := by decide +kernel
theorem dX6_isOpen_0 : decode cX6_isOpen 0 = .ok (.aload_n 0, 1) := by decide +kernel
theorem dX6_isOpen_1 : decode cX6_isOpen 1 = .ok (.getfield 58, 3) := by decide +kernel
theorem dX6_isOpen_4 : decode cX6_isOpen 4 = .ok (.aload_n 0, 1) := by decide +kernel
theorem dX6_isOpen_5 : decode cX6_isOpen 5 = .ok (.getfield 46, 3) := by decide +kernel
theorem dX6_isOpen_8 : decode cX6_isOpen 8 = .ok (.iload_n 1, 1) := by decide +kernel
theorem dX6_isOpen_9 : decode cX6_isOpen 9 = .ok (.iaload, 1) := by decide +kernel
theorem dX6_isOpen_10 : decode cX6_isOpen 10 = .ok (.iaload, 1) := by decide +kernel
theorem dX6_isOpen_11 : decode cX6_isOpen 11 = .ok (.ifCond .ne 7, 3) := by decide +kernel
theorem dX6_isOpen_14 : decode cX6_isOpen 14 = .ok (.iconst 1, 1) := by decide +kernel
theorem dX6_isOpen_15 : decode cX6_isOpen 15 = .ok (.goto 4, 3) := by decide +kernel
theorem dX6_isOpen_18 : decode cX6_isOpen 18 = .ok (.iconst 0, 1) := by decide +kernel
theorem dX6_isOpen_19 : decode cX6_isOpen 19 = .ok (.ireturn, 1) := by decide +kernel
theorem dX6_isHoax_0 : decode cX6_isHoax 0 = .ok (.aload_n 0, 1) := by decide +kernel
theorem dX6_isHoax_1 : decode cX6_isHoax 1 = .ok (.getfield 52, 3) := by decide +kernel
theorem dX6_isHoax_4 : decode cX6_isHoax 4 = .ok (.iload_n 1, 1) := by decide +kernel
theorem dX6_isHoax_5 : decode cX6_isHoax 5 = .ok (.iaload, 1) := by decide +kernel
theorem dX6_isHoax_6 : decode cX6_isHoax 6 = .ok (.iconst 4, 1) := by decide +kernel
theorem dX6_isHoax_7 : decode cX6_isHoax 7 = .ok (.iand, 1) := by decide +kernel
theorem dX6_isHoax_8 : decode cX6_isHoax 8 = .ok (.ifCond .eq 7, 3) := by decide +kernel
theorem dX6_isHoax_11 : decode cX6_isHoax 11 = .ok (.iconst 1, 1) := by decide +kernel
theorem dX6_isHoax_12 : decode cX6_isHoax 12 = .ok (.goto 4, 3) := by decide +kernel
theorem dX6_isHoax_15 : decode cX6_isHoax 15 = .ok (.iconst 0, 1) := by decide +kernel
theorem dX6_isHoax_16 : decode cX6_isHoax 16 = .ok (.ireturn, 1) := by decide +kernel
theorem dX6_firstOf_0 : decode cX6_firstOf 0 = .ok (.iconst 0, 1) := by decide +kernel
theorem dX6_firstOf_1 : decode cX6_firstOf 1 = .ok (.istore_n 2, 1) := by decide +kernel
theorem dX6_firstOf_2 : decode cX6_firstOf 2 = .ok (.iload_n 2, 1) := by decide +kernel
theorem dX6_firstOf_3 : decode cX6_firstOf 3 = .ok (.aload_n 0, 1) := by decide +kernel
theorem dX6_firstOf_4 : decode cX6_firstOf 4 = .ok (.getfield 78, 3) := by decide +kernel
theorem dX6_firstOf_7 : decode cX6_firstOf 7 = .ok (.if_icmp .ge 30, 3) := by decide +kernel
theorem dX6_firstOf_10 : decode cX6_firstOf 10 = .ok (.aload_n 0, 1) := by decide +kernel
theorem dX6_firstOf_11 : decode cX6_firstOf 11 = .ok (.getfield 46, 3) := by decide +kernel
theorem dX6_firstOf_14 : decode cX6_firstOf 14 = .ok (.iload_n 2, 1) := by decide +kernel
theorem dX6_firstOf_15 : decode cX6_firstOf 15 = .ok (.iaload, 1) := by decide +kernel
theorem dX6_firstOf_16 : decode cX6_firstOf 16 = .ok (.iload_n 1, 1) := by decide +kernel
theorem dX6_firstOf_17 : decode cX6_firstOf 17 = .ok (.if_icmp .ne 14, 3) := by decide +kernel
theorem dX6_firstOf_20 : decode cX6_firstOf 20 = .ok (.aload_n 0, 1) := by decide +kernel
theorem dX6_firstOf_21 : decode cX6_firstOf 21 = .ok (.getfield 49, 3) := by decide +kernel
theorem dX6_firstOf_24 : decode cX6_firstOf 24 = .ok (.iload_n 2, 1) := by decide +kernel
theorem dX6_firstOf_25 : decode cX6_firstOf 25 = .ok (.iaload, 1) := by decide +kernel
theorem dX6_firstOf_26 : decode cX6_firstOf 26 = .ok (.ifCond .ge 5, 3) := by decide +kernel
theorem dX6_firstOf_29 : decode cX6_firstOf 29 = .ok (.iload_n 2, 1) := by decide +kernel
theorem dX6_firstOf_30 : decode cX6_firstOf 30 = .ok (.ireturn, 1) := by decide +kernel
theorem dX6_firstOf_31 : decode cX6_firstOf 31 = .ok (.iinc 2 1, 3) := by decide +kernel
theorem dX6_firstOf_34 : decode cX6_firstOf 34 = .ok (.goto (-32), 3) := by decide +kernel
theorem dX6_firstOf_37 : decode cX6_firstOf 37 = .ok (.iconst (-1), 1) := by decide +kernel
theorem dX6_firstOf_38 : decode cX6_firstOf 38 = .ok (.ireturn, 1) := by decide +kernel
theorem dX6_isBeside_0 : decode cX6_isBeside 0 = .ok (.iload_n 0, 1) := by decide +kernel
theorem dX6_isBeside_1 : decode cX6_isBeside 1 = .ok (.sipush 10000, 3) := by decide +kernel
theorem dX6_isBeside_4 : decode cX6_isBeside 4 = .ok (.idiv, 1) := by decide +kernel
theorem dX6_isBeside_5 : decode cX6_isBeside 5 = .ok (.iload_n 1, 1) := by decide +kernel
theorem dX6_isBeside_6 : decode cX6_isBeside 6 = .ok (.sipush 10000, 3) := by decide +kernel
theorem dX6_isBeside_9 : decode cX6_isBeside 9 = .ok (.idiv, 1) := by decide +kernel
theorem dX6_isBeside_10 : decode cX6_isBeside 10 = .ok (.isub, 1) := by decide +kernel
theorem dX6_isBeside_11 : decode cX6_isBeside 11 = .ok (.i2l, 1) := by decide +kernel
theorem dX6_isBeside_12 : decode cX6_isBeside 12 = .ok (.lstore_n 3, 1) := by decide +kernel
theorem dX6_isBeside_13 : decode cX6_isBeside 13 = .ok (.iload_n 0, 1) := by decide +kernel
theorem dX6_isBeside_14 : decode cX6_isBeside 14 = .ok (.sipush 10000, 3) := by decide +kernel
theorem dX6_isBeside_17 : decode cX6_isBeside 17 = .ok (.irem, 1) := by decide +kernel
theorem dX6_isBeside_18 : decode cX6_isBeside 18 = .ok (.iload_n 1, 1) := by decide +kernel
theorem dX6_isBeside_19 : decode cX6_isBeside 19 = .ok (.sipush 10000, 3) := by decide +kernel
theorem dX6_isBeside_22 : decode cX6_isBeside 22 = .ok (.irem, 1) := by decide +kernel
theorem dX6_isBeside_23 : decode cX6_isBeside 23 = .ok (.isub, 1) := by decide +kernel
theorem dX6_isBeside_24 : decode cX6_isBeside 24 = .ok (.i2l, 1) := by decide +kernel
theorem dX6_isBeside_25 : decode cX6_isBeside 25 = .ok (.lstore 5, 2) := by decide +kernel
theorem dX6_isBeside_27 : decode cX6_isBeside 27 = .ok (.iload_n 2, 1) := by decide +kernel
theorem dX6_isBeside_28 : decode cX6_isBeside 28 = .ok (.sipush 10000, 3) := by decide +kernel
theorem dX6_isBeside_31 : decode cX6_isBeside 31 = .ok (.idiv, 1) := by decide +kernel
theorem dX6_isBeside_32 : decode cX6_isBeside 32 = .ok (.iload_n 1, 1) := by decide +kernel
theorem dX6_isBeside_33 : decode cX6_isBeside 33 = .ok (.sipush 10000, 3) := by decide +kernel
theorem dX6_isBeside_36 : decode cX6_isBeside 36 = .ok (.idiv, 1) := by decide +kernel
theorem dX6_isBeside_37 : decode cX6_isBeside 37 = .ok (.isub, 1) := by decide +kernel
theorem dX6_isBeside_38 : decode cX6_isBeside 38 = .ok (.i2l, 1) := by decide +kernel
theorem dX6_isBeside_39 : decode cX6_isBeside 39 = .ok (.lstore 7, 2) := by decide +kernel
theorem dX6_isBeside_41 : decode cX6_isBeside 41 = .ok (.iload_n 2, 1) := by decide +kernel
theorem dX6_isBeside_42 : decode cX6_isBeside 42 = .ok (.sipush 10000, 3) := by decide +kernel
theorem dX6_isBeside_45 : decode cX6_isBeside 45 = .ok (.irem, 1) := by decide +kernel
theorem dX6_isBeside_46 : decode cX6_isBeside 46 = .ok (.iload_n 1, 1) := by decide +kernel
theorem dX6_isBeside_47 : decode cX6_isBeside 47 = .ok (.sipush 10000, 3) := by decide +kernel
theorem dX6_isBeside_50 : decode cX6_isBeside 50 = .ok (.irem, 1) := by decide +kernel
theorem dX6_isBeside_51 : decode cX6_isBeside 51 = .ok (.isub, 1) := by decide +kernel
theorem dX6_isBeside_52 : decode cX6_isBeside 52 = .ok (.i2l, 1) := by decide +kernel
theorem dX6_isBeside_53 : decode cX6_isBeside 53 = .ok (.lstore 9, 2) := by decide +kernel
theorem dX6_isBeside_55 : decode cX6_isBeside 55 = .ok (.lload_n 3, 1) := by decide +kernel
theorem dX6_isBeside_56 : decode cX6_isBeside 56 = .ok (.lload 7, 2) := by decide +kernel
theorem dX6_isBeside_58 : decode cX6_isBeside 58 = .ok (.lmul, 1) := by decide +kernel
theorem dX6_isBeside_59 : decode cX6_isBeside 59 = .ok (.lload 5, 2) := by decide +kernel
theorem dX6_isBeside_61 : decode cX6_isBeside 61 = .ok (.lload 9, 2) := by decide +kernel
theorem dX6_isBeside_63 : decode cX6_isBeside 63 = .ok (.lmul, 1) := by decide +kernel
theorem dX6_isBeside_64 : decode cX6_isBeside 64 = .ok (.ladd, 1) := by decide +kernel
theorem dX6_isBeside_65 : decode cX6_isBeside 65 = .ok (.lstore 11, 2) := by decide +kernel
theorem dX6_isBeside_67 : decode cX6_isBeside 67 = .ok (.lload 7, 2) := by decide +kernel
theorem dX6_isBeside_69 : decode cX6_isBeside 69 = .ok (.lload 7, 2) := by decide +kernel
theorem dX6_isBeside_71 : decode cX6_isBeside 71 = .ok (.lmul, 1) := by decide +kernel
theorem dX6_isBeside_72 : decode cX6_isBeside 72 = .ok (.lload 9, 2) := by decide +kernel
theorem dX6_isBeside_74 : decode cX6_isBeside 74 = .ok (.lload 9, 2) := by decide +kernel
theorem dX6_isBeside_76 : decode cX6_isBeside 76 = .ok (.lmul, 1) := by decide +kernel
theorem dX6_isBeside_77 : decode cX6_isBeside 77 = .ok (.ladd, 1) := by decide +kernel
theorem dX6_isBeside_78 : decode cX6_isBeside 78 = .ok (.lstore 13, 2) := by decide +kernel
theorem dX6_isBeside_80 : decode cX6_isBeside 80 = .ok (.lload 11, 2) := by decide +kernel
theorem dX6_isBeside_82 : decode cX6_isBeside 82 = .ok (.lconst 0, 1) := by decide +kernel
theorem dX6_isBeside_83 : decode cX6_isBeside 83 = .ok (.lcmp, 1) := by decide +kernel
theorem dX6_isBeside_84 : decode cX6_isBeside 84 = .ok (.ifCond .gt 25, 3) := by decide +kernel
theorem dX6_isBeside_87 : decode cX6_isBeside 87 = .ok (.lload_n 3, 1) := by decide +kernel
theorem dX6_isBeside_88 : decode cX6_isBeside 88 = .ok (.lload_n 3, 1) := by decide +kernel
theorem dX6_isBeside_89 : decode cX6_isBeside 89 = .ok (.lmul, 1) := by decide +kernel
theorem dX6_isBeside_90 : decode cX6_isBeside 90 = .ok (.lload 5, 2) := by decide +kernel
theorem dX6_isBeside_92 : decode cX6_isBeside 92 = .ok (.lload 5, 2) := by decide +kernel
theorem dX6_isBeside_94 : decode cX6_isBeside 94 = .ok (.lmul, 1) := by decide +kernel
theorem dX6_isBeside_95 : decode cX6_isBeside 95 = .ok (.ladd, 1) := by decide +kernel
theorem dX6_isBeside_96 : decode cX6_isBeside 96 = .ok (.ldc2_w 113, 3) := by decide +kernel
theorem dX6_isBeside_99 : decode cX6_isBeside 99 = .ok (.lcmp, 1) := by decide +kernel
theorem dX6_isBeside_100 : decode cX6_isBeside 100 = .ok (.ifCond .gt 7, 3) := by decide +kernel
theorem dX6_isBeside_103 : decode cX6_isBeside 103 = .ok (.iconst 1, 1) := by decide +kernel
theorem dX6_isBeside_104 : decode cX6_isBeside 104 = .ok (.goto 4, 3) := by decide +kernel
theorem dX6_isBeside_107 : decode cX6_isBeside 107 = .ok (.iconst 0, 1) := by decide +kernel
theorem dX6_isBeside_108 : decode cX6_isBeside 108 = .ok (.ireturn, 1) := by decide +kernel
theorem dX6_isBeside_109 : decode cX6_isBeside 109 = .ok (.lload 11, 2) := by decide +kernel
theorem dX6_isBeside_111 : decode cX6_isBeside 111 = .ok (.lload 13, 2) := by decide +kernel
theorem dX6_isBeside_113 : decode cX6_isBeside 113 = .ok (.lcmp, 1) := by decide +kernel
theorem dX6_isBeside_114 : decode cX6_isBeside 114 = .ok (.ifCond .lt 21, 3) := by decide +kernel
theorem dX6_isBeside_117 : decode cX6_isBeside 117 = .ok (.iload_n 0, 1) := by decide +kernel
theorem dX6_isBeside_118 : decode cX6_isBeside 118 = .ok (.iload_n 2, 1) := by decide +kernel
theorem dX6_isBeside_119 : decode cX6_isBeside 119 = .ok (.invokestatic 104, 3) := by decide +kernel
theorem dX6_isBeside_122 : decode cX6_isBeside 122 = .ok (.ldc2_w 113, 3) := by decide +kernel
theorem dX6_isBeside_125 : decode cX6_isBeside 125 = .ok (.lcmp, 1) := by decide +kernel
theorem dX6_isBeside_126 : decode cX6_isBeside 126 = .ok (.ifCond .gt 7, 3) := by decide +kernel
theorem dX6_isBeside_129 : decode cX6_isBeside 129 = .ok (.iconst 1, 1) := by decide +kernel
theorem dX6_isBeside_130 : decode cX6_isBeside 130 = .ok (.goto 4, 3) := by decide +kernel
theorem dX6_isBeside_133 : decode cX6_isBeside 133 = .ok (.iconst 0, 1) := by decide +kernel
theorem dX6_isBeside_134 : decode cX6_isBeside 134 = .ok (.ireturn, 1) := by decide +kernel
theorem dX6_isBeside_135 : decode cX6_isBeside 135 = .ok (.lload_n 3, 1) := by decide +kernel
theorem dX6_isBeside_136 : decode cX6_isBeside 136 = .ok (.lload 9, 2) := by decide +kernel
theorem dX6_isBeside_138 : decode cX6_isBeside 138 = .ok (.lmul, 1) := by decide +kernel
theorem dX6_isBeside_139 : decode cX6_isBeside 139 = .ok (.lload 5, 2) := by decide +kernel
theorem dX6_isBeside_141 : decode cX6_isBeside 141 = .ok (.lload 7, 2) := by decide +kernel
theorem dX6_isBeside_143 : decode cX6_isBeside 143 = .ok (.lmul, 1) := by decide +kernel
theorem dX6_isBeside_144 : decode cX6_isBeside 144 = .ok (.lsub, 1) := by decide +kernel
theorem dX6_isBeside_145 : decode cX6_isBeside 145 = .ok (.lstore 15, 2) := by decide +kernel
theorem dX6_isBeside_147 : decode cX6_isBeside 147 = .ok (.lload 15, 2) := by decide +kernel
theorem dX6_isBeside_149 : decode cX6_isBeside 149 = .ok (.lload 15, 2) := by decide +kernel
theorem dX6_isBeside_151 : decode cX6_isBeside 151 = .ok (.lmul, 1) := by decide +kernel
theorem dX6_isBeside_152 : decode cX6_isBeside 152 = .ok (.ldc2_w 113, 3) := by decide +kernel
theorem dX6_isBeside_155 : decode cX6_isBeside 155 = .ok (.lload 13, 2) := by decide +kernel
theorem dX6_isBeside_157 : decode cX6_isBeside 157 = .ok (.lmul, 1) := by decide +kernel
theorem dX6_isBeside_158 : decode cX6_isBeside 158 = .ok (.lcmp, 1) := by decide +kernel
theorem dX6_isBeside_159 : decode cX6_isBeside 159 = .ok (.ifCond .gt 7, 3) := by decide +kernel
theorem dX6_isBeside_162 : decode cX6_isBeside 162 = .ok (.iconst 1, 1) := by decide +kernel
theorem dX6_isBeside_163 : decode cX6_isBeside 163 = .ok (.goto 4, 3) := by decide +kernel
theorem dX6_isBeside_166 : decode cX6_isBeside 166 = .ok (.iconst 0, 1) := by decide +kernel
theorem dX6_isBeside_167 : decode cX6_isBeside 167 = .ok (.ireturn, 1) := by decide +kernel
theorem dX6_isOn_0 : decode cX6_isOn 0 = .ok (.iload_n 2, 1) := by decide +kernel
theorem dX6_isOn_1 : decode cX6_isOn 1 = .ok (.ifCond .ge 19, 3) := by decide +kernel
theorem dX6_isOn_4 : decode cX6_isOn 4 = .ok (.iload_n 3, 1) := by decide +kernel
theorem dX6_isOn_5 : decode cX6_isOn 5 = .ok (.aload_n 0, 1) := by decide +kernel
theorem dX6_isOn_6 : decode cX6_isOn 6 = .ok (.getfield 61, 3) := by decide +kernel
theorem dX6_isOn_9 : decode cX6_isOn 9 = .ok (.iload_n 1, 1) := by decide +kernel
theorem dX6_isOn_10 : decode cX6_isOn 10 = .ok (.iaload, 1) := by decide +kernel
theorem dX6_isOn_11 : decode cX6_isOn 11 = .ok (.if_icmp .ne 7, 3) := by decide +kernel
theorem dX6_isOn_14 : decode cX6_isOn 14 = .ok (.iconst 1, 1) := by decide +kernel
theorem dX6_isOn_15 : decode cX6_isOn 15 = .ok (.goto 4, 3) := by decide +kernel
theorem dX6_isOn_18 : decode cX6_isOn 18 = .ok (.iconst 0, 1) := by decide +kernel
theorem dX6_isOn_19 : decode cX6_isOn 19 = .ok (.ireturn, 1) := by decide +kernel
theorem dX6_isOn_20 : decode cX6_isOn 20 = .ok (.aload_n 0, 1) := by decide +kernel
theorem dX6_isOn_21 : decode cX6_isOn 21 = .ok (.getfield 64, 3) := by decide +kernel
theorem dX6_isOn_24 : decode cX6_isOn 24 = .ok (.iload_n 1, 1) := by decide +kernel
theorem dX6_isOn_25 : decode cX6_isOn 25 = .ok (.iaload, 1) := by decide +kernel
theorem dX6_isOn_26 : decode cX6_isOn 26 = .ok (.aload_n 0, 1) := by decide +kernel
theorem dX6_isOn_27 : decode cX6_isOn 27 = .ok (.getfield 67, 3) := by decide +kernel
theorem dX6_isOn_30 : decode cX6_isOn 30 = .ok (.iload_n 1, 1) := by decide +kernel
theorem dX6_isOn_31 : decode cX6_isOn 31 = .ok (.iaload, 1) := by decide +kernel
theorem dX6_isOn_32 : decode cX6_isOn 32 = .ok (.if_icmp .ge 12, 3) := by decide +kernel
theorem dX6_isOn_35 : decode cX6_isOn 35 = .ok (.aload_n 0, 1) := by decide +kernel
theorem dX6_isOn_36 : decode cX6_isOn 36 = .ok (.getfield 64, 3) := by decide +kernel
theorem dX6_isOn_39 : decode cX6_isOn 39 = .ok (.iload_n 1, 1) := by decide +kernel
theorem dX6_isOn_40 : decode cX6_isOn 40 = .ok (.iaload, 1) := by decide +kernel
theorem dX6_isOn_41 : decode cX6_isOn 41 = .ok (.goto 9, 3) := by decide +kernel
theorem dX6_isOn_44 : decode cX6_isOn 44 = .ok (.aload_n 0, 1) := by decide +kernel
theorem dX6_isOn_45 : decode cX6_isOn 45 = .ok (.getfield 67, 3) := by decide +kernel
theorem dX6_isOn_48 : decode cX6_isOn 48 = .ok (.iload_n 1, 1) := by decide +kernel
theorem dX6_isOn_49 : decode cX6_isOn 49 = .ok (.iaload, 1) := by decide +kernel
theorem dX6_isOn_50 : decode cX6_isOn 50 = .ok (.istore 4, 2) := by decide +kernel
theorem dX6_isOn_52 : decode cX6_isOn 52 = .ok (.aload_n 0, 1) := by decide +kernel
theorem dX6_isOn_53 : decode cX6_isOn 53 = .ok (.getfield 64, 3) := by decide +kernel
theorem dX6_isOn_56 : decode cX6_isOn 56 = .ok (.iload_n 1, 1) := by decide +kernel
theorem dX6_isOn_57 : decode cX6_isOn 57 = .ok (.iaload, 1) := by decide +kernel
theorem dX6_isOn_58 : decode cX6_isOn 58 = .ok (.aload_n 0, 1) := by decide +kernel
theorem dX6_isOn_59 : decode cX6_isOn 59 = .ok (.getfield 67, 3) := by decide +kernel
theorem dX6_isOn_62 : decode cX6_isOn 62 = .ok (.iload_n 1, 1) := by decide +kernel
theorem dX6_isOn_63 : decode cX6_isOn 63 = .ok (.iaload, 1) := by decide +kernel
theorem dX6_isOn_64 : decode cX6_isOn 64 = .ok (.iadd, 1) := by decide +kernel
theorem dX6_isOn_65 : decode cX6_isOn 65 = .ok (.iload 4, 2) := by decide +kernel
theorem dX6_isOn_67 : decode cX6_isOn 67 = .ok (.isub, 1) := by decide +kernel
theorem dX6_isOn_68 : decode cX6_isOn 68 = .ok (.istore 5, 2) := by decide +kernel
theorem dX6_isOn_70 : decode cX6_isOn 70 = .ok (.iconst 0, 1) := by decide +kernel
theorem dX6_isOn_71 : decode cX6_isOn 71 = .ok (.istore 6, 2) := by decide +kernel
theorem dX6_isOn_73 : decode cX6_isOn 73 = .ok (.iload 4, 2) := by decide +kernel
theorem dX6_isOn_75 : decode cX6_isOn 75 = .ok (.istore 7, 2) := by decide +kernel
theorem dX6_isOn_77 : decode cX6_isOn 77 = .ok (.iload 7, 2) := by decide +kernel
theorem dX6_isOn_79 : decode cX6_isOn 79 = .ok (.iload 5, 2) := by decide +kernel
theorem dX6_isOn_81 : decode cX6_isOn 81 = .ok (.if_icmp .ge 64, 3) := by decide +kernel
theorem dX6_isOn_84 : decode cX6_isOn 84 = .ok (.iload 6, 2) := by decide +kernel
theorem dX6_isOn_86 : decode cX6_isOn 86 = .ok (.ifCond .ne 46, 3) := by decide +kernel
theorem dX6_isOn_89 : decode cX6_isOn 89 = .ok (.iload_n 2, 1) := by decide +kernel
theorem dX6_isOn_90 : decode cX6_isOn 90 = .ok (.aload_n 0, 1) := by decide +kernel
theorem dX6_isOn_91 : decode cX6_isOn 91 = .ok (.getfield 28, 3) := by decide +kernel
theorem dX6_isOn_94 : decode cX6_isOn 94 = .ok (.bipush 8, 2) := by decide +kernel
theorem dX6_isOn_96 : decode cX6_isOn 96 = .ok (.aload_n 0, 1) := by decide +kernel
theorem dX6_isOn_97 : decode cX6_isOn 97 = .ok (.getfield 61, 3) := by decide +kernel
theorem dX6_isOn_100 : decode cX6_isOn 100 = .ok (.iload_n 1, 1) := by decide +kernel
theorem dX6_isOn_101 : decode cX6_isOn 101 = .ok (.iaload, 1) := by decide +kernel
theorem dX6_isOn_102 : decode cX6_isOn 102 = .ok (.imul, 1) := by decide +kernel
theorem dX6_isOn_103 : decode cX6_isOn 103 = .ok (.iload 7, 2) := by decide +kernel
theorem dX6_isOn_105 : decode cX6_isOn 105 = .ok (.iadd, 1) := by decide +kernel
theorem dX6_isOn_106 : decode cX6_isOn 106 = .ok (.iaload, 1) := by decide +kernel
theorem dX6_isOn_107 : decode cX6_isOn 107 = .ok (.aload_n 0, 1) := by decide +kernel
theorem dX6_isOn_108 : decode cX6_isOn 108 = .ok (.getfield 28, 3) := by decide +kernel
theorem dX6_isOn_111 : decode cX6_isOn 111 = .ok (.bipush 8, 2) := by decide +kernel
theorem dX6_isOn_113 : decode cX6_isOn 113 = .ok (.aload_n 0, 1) := by decide +kernel
theorem dX6_isOn_114 : decode cX6_isOn 114 = .ok (.getfield 61, 3) := by decide +kernel
theorem dX6_isOn_117 : decode cX6_isOn 117 = .ok (.iload_n 1, 1) := by decide +kernel
theorem dX6_isOn_118 : decode cX6_isOn 118 = .ok (.iaload, 1) := by decide +kernel
theorem dX6_isOn_119 : decode cX6_isOn 119 = .ok (.imul, 1) := by decide +kernel
theorem dX6_isOn_120 : decode cX6_isOn 120 = .ok (.iload 7, 2) := by decide +kernel
theorem dX6_isOn_122 : decode cX6_isOn 122 = .ok (.iadd, 1) := by decide +kernel
theorem dX6_isOn_123 : decode cX6_isOn 123 = .ok (.iconst 1, 1) := by decide +kernel
theorem dX6_isOn_124 : decode cX6_isOn 124 = .ok (.iadd, 1) := by decide +kernel
theorem dX6_isOn_125 : decode cX6_isOn 125 = .ok (.iaload, 1) := by decide +kernel
theorem dX6_isOn_126 : decode cX6_isOn 126 = .ok (.invokestatic 115, 3) := by decide +kernel
theorem dX6_isOn_129 : decode cX6_isOn 129 = .ok (.ifCond .eq 7, 3) := by decide +kernel
theorem dX6_isOn_132 : decode cX6_isOn 132 = .ok (.iconst 1, 1) := by decide +kernel
theorem dX6_isOn_133 : decode cX6_isOn 133 = .ok (.goto 4, 3) := by decide +kernel
theorem dX6_isOn_136 : decode cX6_isOn 136 = .ok (.iconst 0, 1) := by decide +kernel
theorem dX6_isOn_137 : decode cX6_isOn 137 = .ok (.istore 6, 2) := by decide +kernel
theorem dX6_isOn_139 : decode cX6_isOn 139 = .ok (.iinc 7 1, 3) := by decide +kernel
theorem dX6_isOn_142 : decode cX6_isOn 142 = .ok (.goto (-65), 3) := by decide +kernel
theorem dX6_isOn_145 : decode cX6_isOn 145 = .ok (.iload 6, 2) := by decide +kernel
theorem dX6_isOn_147 : decode cX6_isOn 147 = .ok (.ireturn, 1) := by decide +kernel
theorem dX6_again_0 : decode cX6_again 0 = .ok (.iconst (-1), 1) := by decide +kernel
theorem dX6_again_1 : decode cX6_again 1 = .ok (.istore 4, 2) := by decide +kernel
theorem dX6_again_3 : decode cX6_again 3 = .ok (.iconst 0, 1) := by decide +kernel
theorem dX6_again_4 : decode cX6_again 4 = .ok (.istore 5, 2) := by decide +kernel
theorem dX6_again_6 : decode cX6_again 6 = .ok (.iload 5, 2) := by decide +kernel
theorem dX6_again_8 : decode cX6_again 8 = .ok (.aload_n 0, 1) := by decide +kernel
theorem dX6_again_9 : decode cX6_again 9 = .ok (.getfield 78, 3) := by decide +kernel
theorem dX6_again_12 : decode cX6_again 12 = .ok (.if_icmp .ge 42, 3) := by decide +kernel
theorem dX6_again_15 : decode cX6_again 15 = .ok (.aload_n 0, 1) := by decide +kernel
theorem dX6_again_16 : decode cX6_again 16 = .ok (.getfield 31, 3) := by decide +kernel
theorem dX6_again_19 : decode cX6_again 19 = .ok (.iload 5, 2) := by decide +kernel
theorem dX6_again_21 : decode cX6_again 21 = .ok (.iaload, 1) := by decide +kernel
theorem dX6_again_22 : decode cX6_again 22 = .ok (.iload_n 1, 1) := by decide +kernel
theorem dX6_again_23 : decode cX6_again 23 = .ok (.if_icmp .ne 25, 3) := by decide +kernel
theorem dX6_again_26 : decode cX6_again 26 = .ok (.aload_n 0, 1) := by decide +kernel
theorem dX6_again_27 : decode cX6_again 27 = .ok (.iload 5, 2) := by decide +kernel
theorem dX6_again_29 : decode cX6_again 29 = .ok (.invokevirtual 118, 3) := by decide +kernel
theorem dX6_again_32 : decode cX6_again 32 = .ok (.ifCond .eq 16, 3) := by decide +kernel
theorem dX6_again_35 : decode cX6_again 35 = .ok (.aload_n 0, 1) := by decide +kernel
theorem dX6_again_36 : decode cX6_again 36 = .ok (.iload 5, 2) := by decide +kernel
theorem dX6_again_38 : decode cX6_again 38 = .ok (.invokevirtual 121, 3) := by decide +kernel
theorem dX6_again_41 : decode cX6_again 41 = .ok (.ifCond .ne 7, 3) := by decide +kernel
theorem dX6_again_44 : decode cX6_again 44 = .ok (.iload 5, 2) := by decide +kernel
theorem dX6_again_46 : decode cX6_again 46 = .ok (.istore 4, 2) := by decide +kernel
theorem dX6_again_48 : decode cX6_again 48 = .ok (.iinc 5 1, 3) := by decide +kernel
theorem dX6_again_51 : decode cX6_again 51 = .ok (.goto (-45), 3) := by decide +kernel
theorem dX6_again_54 : decode cX6_again 54 = .ok (.iload 4, 2) := by decide +kernel
theorem dX6_again_56 : decode cX6_again 56 = .ok (.ifCond .lt 30, 3) := by decide +kernel
theorem dX6_again_59 : decode cX6_again 59 = .ok (.iload_n 3, 1) := by decide +kernel
theorem dX6_again_60 : decode cX6_again 60 = .ok (.i2l, 1) := by decide +kernel
theorem dX6_again_61 : decode cX6_again 61 = .ok (.aload_n 0, 1) := by decide +kernel
theorem dX6_again_62 : decode cX6_again 62 = .ok (.getfield 43, 3) := by decide +kernel
theorem dX6_again_65 : decode cX6_again 65 = .ok (.iload 4, 2) := by decide +kernel
theorem dX6_again_67 : decode cX6_again 67 = .ok (.iaload, 1) := by decide +kernel
theorem dX6_again_68 : decode cX6_again 68 = .ok (.i2l, 1) := by decide +kernel
theorem dX6_again_69 : decode cX6_again 69 = .ok (.lsub, 1) := by decide +kernel
theorem dX6_again_70 : decode cX6_again 70 = .ok (.aload_n 0, 1) := by decide +kernel
theorem dX6_again_71 : decode cX6_again 71 = .ok (.getfield 13, 3) := by decide +kernel
theorem dX6_again_74 : decode cX6_again 74 = .ok (.iload_n 2, 1) := by decide +kernel
theorem dX6_again_75 : decode cX6_again 75 = .ok (.iaload, 1) := by decide +kernel
