theorem dX2_append_9 : decode cX2_append 9 = .ok (.getfield 9, 3) := by decide +kernel
theorem dX2_append_12 : decode cX2_append 12 = .ok (.iload_n 1, 1) := by decide +kernel
theorem dX2_append_13 : decode cX2_append 13 = .ok (.iaload, 1) := by decide +kernel
theorem dX2_append_14 : decode cX2_append 14 = .ok (.iadd, 1) := by decide +kernel
theorem dX2_append_15 : decode cX2_append 15 = .ok (.iload_n 2, 1) := by decide +kernel
theorem dX2_append_16 : decode cX2_append 16 = .ok (.iastore, 1) := by decide +kernel
theorem dX2_append_17 : decode cX2_append 17 = .ok (.aload_n 0, 1) := by decide +kernel
theorem dX2_append_18 : decode cX2_append 18 = .ok (.getfield 9, 3) := by decide +kernel
theorem dX2_append_21 : decode cX2_append 21 = .ok (.iload_n 1, 1) := by decide +kernel
theorem dX2_append_22 : decode cX2_append 22 = .ok (.dup2, 1) := by decide +kernel
theorem dX2_append_23 : decode cX2_append 23 = .ok (.iaload, 1) := by decide +kernel
theorem dX2_append_24 : decode cX2_append 24 = .ok (.iconst 1, 1) := by decide +kernel
theorem dX2_append_25 : decode cX2_append 25 = .ok (.iadd, 1) := by decide +kernel
theorem dX2_append_26 : decode cX2_append 26 = .ok (.iastore, 1) := by decide +kernel
theorem dX2_append_27 : decode cX2_append 27 = .ok (.aload_n 0, 1) := by decide +kernel
theorem dX2_append_28 : decode cX2_append 28 = .ok (.getfield 9, 3) := by decide +kernel
theorem dX2_append_31 : decode cX2_append 31 = .ok (.iload_n 1, 1) := by decide +kernel
theorem dX2_append_32 : decode cX2_append 32 = .ok (.iaload, 1) := by decide +kernel
theorem dX2_append_33 : decode cX2_append 33 = .ok (.ireturn, 1) := by decide +kernel
theorem dX2_isNear_0 : decode cX2_isNear 0 = .ok (.iload_n 1, 1) := by decide +kernel
theorem dX2_isNear_1 : decode cX2_isNear 1 = .ok (.bipush 8, 2) := by decide +kernel
theorem dX2_isNear_3 : decode cX2_isNear 3 = .ok (.imul, 1) := by decide +kernel
theorem dX2_isNear_4 : decode cX2_isNear 4 = .ok (.istore 5, 2) := by decide +kernel
theorem dX2_isNear_6 : decode cX2_isNear 6 = .ok (.iload_n 2, 1) := by decide +kernel
theorem dX2_isNear_7 : decode cX2_isNear 7 = .ok (.istore 6, 2) := by decide +kernel
theorem dX2_isNear_9 : decode cX2_isNear 9 = .ok (.iload 6, 2) := by decide +kernel
theorem dX2_isNear_11 : decode cX2_isNear 11 = .ok (.iload_n 3, 1) := by decide +kernel
theorem dX2_isNear_12 : decode cX2_isNear 12 = .ok (.if_icmp .ge 41, 3) := by decide +kernel
theorem dX2_isNear_15 : decode cX2_isNear 15 = .ok (.aload_n 0, 1) := by decide +kernel
theorem dX2_isNear_16 : decode cX2_isNear 16 = .ok (.getfield 15, 3) := by decide +kernel
theorem dX2_isNear_19 : decode cX2_isNear 19 = .ok (.iload 5, 2) := by decide +kernel
theorem dX2_isNear_21 : decode cX2_isNear 21 = .ok (.iload 6, 2) := by decide +kernel
theorem dX2_isNear_23 : decode cX2_isNear 23 = .ok (.iadd, 1) := by decide +kernel
theorem dX2_isNear_24 : decode cX2_isNear 24 = .ok (.iaload, 1) := by decide +kernel
theorem dX2_isNear_25 : decode cX2_isNear 25 = .ok (.aload_n 0, 1) := by decide +kernel
theorem dX2_isNear_26 : decode cX2_isNear 26 = .ok (.getfield 15, 3) := by decide +kernel
theorem dX2_isNear_29 : decode cX2_isNear 29 = .ok (.iload 5, 2) := by decide +kernel
theorem dX2_isNear_31 : decode cX2_isNear 31 = .ok (.iload 6, 2) := by decide +kernel
theorem dX2_isNear_33 : decode cX2_isNear 33 = .ok (.iadd, 1) := by decide +kernel
theorem dX2_isNear_34 : decode cX2_isNear 34 = .ok (.iconst 1, 1) := by decide +kernel
theorem dX2_isNear_35 : decode cX2_isNear 35 = .ok (.iadd, 1) := by decide +kernel
theorem dX2_isNear_36 : decode cX2_isNear 36 = .ok (.iaload, 1) := by decide +kernel
theorem dX2_isNear_37 : decode cX2_isNear 37 = .ok (.iload 4, 2) := by decide +kernel
theorem dX2_isNear_39 : decode cX2_isNear 39 = .ok (.invokestatic 18, 3) := by decide +kernel
theorem dX2_isNear_42 : decode cX2_isNear 42 = .ok (.ifCond .eq 5, 3) := by decide +kernel
theorem dX2_isNear_45 : decode cX2_isNear 45 = .ok (.iconst 1, 1) := by decide +kernel
theorem dX2_isNear_46 : decode cX2_isNear 46 = .ok (.ireturn, 1) := by decide +kernel
theorem dX2_isNear_47 : decode cX2_isNear 47 = .ok (.iinc 6 1, 3) := by decide +kernel
theorem dX2_isNear_50 : decode cX2_isNear 50 = .ok (.goto (-41), 3) := by decide +kernel
theorem dX2_isNear_53 : decode cX2_isNear 53 = .ok (.iconst 0, 1) := by decide +kernel
theorem dX2_isNear_54 : decode cX2_isNear 54 = .ok (.ireturn, 1) := by decide +kernel
theorem dX2_isNearPiece_0 : decode cX2_isNearPiece 0 = .ok (.iload_n 1, 1) := by decide +kernel
theorem dX2_isNearPiece_1 : decode cX2_isNearPiece 1 = .ok (.invokestatic 22, 3) := by decide +kernel
theorem dX2_isNearPiece_4 : decode cX2_isNearPiece 4 = .ok (.iload_n 0, 1) := by decide +kernel
theorem dX2_isNearPiece_5 : decode cX2_isNearPiece 5 = .ok (.invokestatic 22, 3) := by decide +kernel
theorem dX2_isNearPiece_8 : decode cX2_isNearPiece 8 = .ok (.isub, 1) := by decide +kernel
theorem dX2_isNearPiece_9 : decode cX2_isNearPiece 9 = .ok (.i2l, 1) := by decide +kernel
theorem dX2_isNearPiece_10 : decode cX2_isNearPiece 10 = .ok (.lstore_n 3, 1) := by decide +kernel
theorem dX2_isNearPiece_11 : decode cX2_isNearPiece 11 = .ok (.iload_n 1, 1) := by decide +kernel
theorem dX2_isNearPiece_12 : decode cX2_isNearPiece 12 = .ok (.invokestatic 26, 3) := by decide +kernel
theorem dX2_isNearPiece_15 : decode cX2_isNearPiece 15 = .ok (.iload_n 0, 1) := by decide +kernel
theorem dX2_isNearPiece_16 : decode cX2_isNearPiece 16 = .ok (.invokestatic 26, 3) := by decide +kernel
theorem dX2_isNearPiece_19 : decode cX2_isNearPiece 19 = .ok (.isub, 1) := by decide +kernel
theorem dX2_isNearPiece_20 : decode cX2_isNearPiece 20 = .ok (.i2l, 1) := by decide +kernel
theorem dX2_isNearPiece_21 : decode cX2_isNearPiece 21 = .ok (.lstore 5, 2) := by decide +kernel
theorem dX2_isNearPiece_23 : decode cX2_isNearPiece 23 = .ok (.iload_n 2, 1) := by decide +kernel
theorem dX2_isNearPiece_24 : decode cX2_isNearPiece 24 = .ok (.invokestatic 22, 3) := by decide +kernel
theorem dX2_isNearPiece_27 : decode cX2_isNearPiece 27 = .ok (.iload_n 0, 1) := by decide +kernel
theorem dX2_isNearPiece_28 : decode cX2_isNearPiece 28 = .ok (.invokestatic 22, 3) := by decide +kernel
theorem dX2_isNearPiece_31 : decode cX2_isNearPiece 31 = .ok (.isub, 1) := by decide +kernel
theorem dX2_isNearPiece_32 : decode cX2_isNearPiece 32 = .ok (.i2l, 1) := by decide +kernel
theorem dX2_isNearPiece_33 : decode cX2_isNearPiece 33 = .ok (.lstore 7, 2) := by decide +kernel
theorem dX2_isNearPiece_35 : decode cX2_isNearPiece 35 = .ok (.iload_n 2, 1) := by decide +kernel
theorem dX2_isNearPiece_36 : decode cX2_isNearPiece 36 = .ok (.invokestatic 26, 3) := by decide +kernel
theorem dX2_isNearPiece_39 : decode cX2_isNearPiece 39 = .ok (.iload_n 0, 1) := by decide +kernel
theorem dX2_isNearPiece_40 : decode cX2_isNearPiece 40 = .ok (.invokestatic 26, 3) := by decide +kernel
theorem dX2_isNearPiece_43 : decode cX2_isNearPiece 43 = .ok (.isub, 1) := by decide +kernel
theorem dX2_isNearPiece_44 : decode cX2_isNearPiece 44 = .ok (.i2l, 1) := by decide +kernel
theorem dX2_isNearPiece_45 : decode cX2_isNearPiece 45 = .ok (.lstore 9, 2) := by decide +kernel
theorem dX2_isNearPiece_47 : decode cX2_isNearPiece 47 = .ok (.lload 7, 2) := by decide +kernel
theorem dX2_isNearPiece_49 : decode cX2_isNearPiece 49 = .ok (.lload_n 3, 1) := by decide +kernel
theorem dX2_isNearPiece_50 : decode cX2_isNearPiece 50 = .ok (.lmul, 1) := by decide +kernel
theorem dX2_isNearPiece_51 : decode cX2_isNearPiece 51 = .ok (.lload 9, 2) := by decide +kernel
theorem dX2_isNearPiece_53 : decode cX2_isNearPiece 53 = .ok (.lload 5, 2) := by decide +kernel
theorem dX2_isNearPiece_55 : decode cX2_isNearPiece 55 = .ok (.lmul, 1) := by decide +kernel
theorem dX2_isNearPiece_56 : decode cX2_isNearPiece 56 = .ok (.ladd, 1) := by decide +kernel
theorem dX2_isNearPiece_57 : decode cX2_isNearPiece 57 = .ok (.lstore 11, 2) := by decide +kernel
theorem dX2_isNearPiece_59 : decode cX2_isNearPiece 59 = .ok (.lload_n 3, 1) := by decide +kernel
theorem dX2_isNearPiece_60 : decode cX2_isNearPiece 60 = .ok (.lload_n 3, 1) := by decide +kernel
theorem dX2_isNearPiece_61 : decode cX2_isNearPiece 61 = .ok (.lmul, 1) := by decide +kernel
theorem dX2_isNearPiece_62 : decode cX2_isNearPiece 62 = .ok (.lload 5, 2) := by decide +kernel
theorem dX2_isNearPiece_64 : decode cX2_isNearPiece 64 = .ok (.lload 5, 2) := by decide +kernel
theorem dX2_isNearPiece_66 : decode cX2_isNearPiece 66 = .ok (.lmul, 1) := by decide +kernel
theorem dX2_isNearPiece_67 : decode cX2_isNearPiece 67 = .ok (.ladd, 1) := by decide +kernel
theorem dX2_isNearPiece_68 : decode cX2_isNearPiece 68 = .ok (.lstore 13, 2) := by decide +kernel
theorem dX2_isNearPiece_70 : decode cX2_isNearPiece 70 = .ok (.lload 11, 2) := by decide +kernel
theorem dX2_isNearPiece_72 : decode cX2_isNearPiece 72 = .ok (.lconst 0, 1) := by decide +kernel
theorem dX2_isNearPiece_73 : decode cX2_isNearPiece 73 = .ok (.lcmp, 1) := by decide +kernel
theorem dX2_isNearPiece_74 : decode cX2_isNearPiece 74 = .ok (.ifCond .gt 21, 3) := by decide +kernel
theorem dX2_isNearPiece_77 : decode cX2_isNearPiece 77 = .ok (.iload_n 0, 1) := by decide +kernel
theorem dX2_isNearPiece_78 : decode cX2_isNearPiece 78 = .ok (.iload_n 2, 1) := by decide +kernel
theorem dX2_isNearPiece_79 : decode cX2_isNearPiece 79 = .ok (.invokestatic 29, 3) := by decide +kernel
theorem dX2_isNearPiece_82 : decode cX2_isNearPiece 82 = .ok (.ldc2_w 33, 3) := by decide +kernel
theorem dX2_isNearPiece_85 : decode cX2_isNearPiece 85 = .ok (.lcmp, 1) := by decide +kernel
theorem dX2_isNearPiece_86 : decode cX2_isNearPiece 86 = .ok (.ifCond .gt 7, 3) := by decide +kernel
theorem dX2_isNearPiece_89 : decode cX2_isNearPiece 89 = .ok (.iconst 1, 1) := by decide +kernel
theorem dX2_isNearPiece_90 : decode cX2_isNearPiece 90 = .ok (.goto 4, 3) := by decide +kernel
theorem dX2_isNearPiece_93 : decode cX2_isNearPiece 93 = .ok (.iconst 0, 1) := by decide +kernel
theorem dX2_isNearPiece_94 : decode cX2_isNearPiece 94 = .ok (.ireturn, 1) := by decide +kernel
theorem dX2_isNearPiece_95 : decode cX2_isNearPiece 95 = .ok (.lload 11, 2) := by decide +kernel
theorem dX2_isNearPiece_97 : decode cX2_isNearPiece 97 = .ok (.lload 13, 2) := by decide +kernel
theorem dX2_isNearPiece_99 : decode cX2_isNearPiece 99 = .ok (.lcmp, 1) := by decide +kernel
theorem dX2_isNearPiece_100 : decode cX2_isNearPiece 100 = .ok (.ifCond .lt 21, 3) := by decide +kernel
theorem dX2_isNearPiece_103 : decode cX2_isNearPiece 103 = .ok (.iload_n 1, 1) := by decide +kernel
theorem dX2_isNearPiece_104 : decode cX2_isNearPiece 104 = .ok (.iload_n 2, 1) := by decide +kernel
theorem dX2_isNearPiece_105 : decode cX2_isNearPiece 105 = .ok (.invokestatic 29, 3) := by decide +kernel
theorem dX2_isNearPiece_108 : decode cX2_isNearPiece 108 = .ok (.ldc2_w 33, 3) := by decide +kernel
theorem dX2_isNearPiece_111 : decode cX2_isNearPiece 111 = .ok (.lcmp, 1) := by decide +kernel
theorem dX2_isNearPiece_112 : decode cX2_isNearPiece 112 = .ok (.ifCond .gt 7, 3) := by decide +kernel
theorem dX2_isNearPiece_115 : decode cX2_isNearPiece 115 = .ok (.iconst 1, 1) := by decide +kernel
theorem dX2_isNearPiece_116 : decode cX2_isNearPiece 116 = .ok (.goto 4, 3) := by decide +kernel
theorem dX2_isNearPiece_119 : decode cX2_isNearPiece 119 = .ok (.iconst 0, 1) := by decide +kernel
theorem dX2_isNearPiece_120 : decode cX2_isNearPiece 120 = .ok (.ireturn, 1) := by decide +kernel
theorem dX2_isNearPiece_121 : decode cX2_isNearPiece 121 = .ok (.lload 7, 2) := by decide +kernel
theorem dX2_isNearPiece_123 : decode cX2_isNearPiece 123 = .ok (.lload 5, 2) := by decide +kernel
theorem dX2_isNearPiece_125 : decode cX2_isNearPiece 125 = .ok (.lmul, 1) := by decide +kernel
theorem dX2_isNearPiece_126 : decode cX2_isNearPiece 126 = .ok (.lload 9, 2) := by decide +kernel
theorem dX2_isNearPiece_128 : decode cX2_isNearPiece 128 = .ok (.lload_n 3, 1) := by decide +kernel
theorem dX2_isNearPiece_129 : decode cX2_isNearPiece 129 = .ok (.lmul, 1) := by decide +kernel
theorem dX2_isNearPiece_130 : decode cX2_isNearPiece 130 = .ok (.lsub, 1) := by decide +kernel
theorem dX2_isNearPiece_131 : decode cX2_isNearPiece 131 = .ok (.lstore 15, 2) := by decide +kernel
theorem dX2_isNearPiece_133 : decode cX2_isNearPiece 133 = .ok (.lload 15, 2) := by decide +kernel
theorem dX2_isNearPiece_135 : decode cX2_isNearPiece 135 = .ok (.lload 15, 2) := by decide +kernel
theorem dX2_isNearPiece_137 : decode cX2_isNearPiece 137 = .ok (.lmul, 1) := by decide +kernel
theorem dX2_isNearPiece_138 : decode cX2_isNearPiece 138 = .ok (.ldc2_w 33, 3) := by decide +kernel
theorem dX2_isNearPiece_141 : decode cX2_isNearPiece 141 = .ok (.lload 13, 2) := by decide +kernel
theorem dX2_isNearPiece_143 : decode cX2_isNearPiece 143 = .ok (.lmul, 1) := by decide +kernel
theorem dX2_isNearPiece_144 : decode cX2_isNearPiece 144 = .ok (.lcmp, 1) := by decide +kernel
theorem dX2_isNearPiece_145 : decode cX2_isNearPiece 145 = .ok (.ifCond .gt 7, 3) := by decide +kernel
theorem dX2_isNearPiece_148 : decode cX2_isNearPiece 148 = .ok (.iconst 1, 1) := by decide +kernel
theorem dX2_isNearPiece_149 : decode cX2_isNearPiece 149 = .ok (.goto 4, 3) := by decide +kernel
theorem dX2_isNearPiece_152 : decode cX2_isNearPiece 152 = .ok (.iconst 0, 1) := by decide +kernel
theorem dX2_isNearPiece_153 : decode cX2_isNearPiece 153 = .ok (.ireturn, 1) := by decide +kernel
theorem dX3_init_0 : decode cX3_init 0 = .ok (.aload_n 0, 1) := by decide +kernel
theorem dX3_init_1 : decode cX3_init 1 = .ok (.invokespecial 3, 3) := by decide +kernel
theorem dX3_init_4 : decode cX3_init 4 = .ok (.aload_n 0, 1) := by decide +kernel
theorem dX3_init_5 : decode cX3_init 5 = .ok (.bipush 8, 2) := by decide +kernel
theorem dX3_init_7 : decode cX3_init 7 = .ok (.newarray .int, 2) := by decide +kernel
theorem dX3_init_9 : decode cX3_init 9 = .ok (.putfield 9, 3) := by decide +kernel
theorem dX3_init_12 : decode cX3_init 12 = .ok (.aload_n 0, 1) := by decide +kernel
theorem dX3_init_13 : decode cX3_init 13 = .ok (.bipush 8, 2) := by decide +kernel
theorem dX3_init_15 : decode cX3_init 15 = .ok (.newarray .int, 2) := by decide +kernel
theorem dX3_init_17 : decode cX3_init 17 = .ok (.putfield 15, 3) := by decide +kernel
theorem dX3_init_20 : decode cX3_init 20 = .ok (.aload_n 0, 1) := by decide +kernel
theorem dX3_init_21 : decode cX3_init 21 = .ok (.bipush 8, 2) := by decide +kernel
theorem dX3_init_23 : decode cX3_init 23 = .ok (.newarray .int, 2) := by decide +kernel
theorem dX3_init_25 : decode cX3_init 25 = .ok (.putfield 18, 3) := by decide +kernel
theorem dX3_init_28 : decode cX3_init 28 = .ok (.aload_n 0, 1) := by decide +kernel
theorem dX3_init_29 : decode cX3_init 29 = .ok (.bipush 8, 2) := by decide +kernel
theorem dX3_init_31 : decode cX3_init 31 = .ok (.newarray .int, 2) := by decide +kernel
theorem dX3_init_33 : decode cX3_init 33 = .ok (.putfield 21, 3) := by decide +kernel
theorem dX3_init_36 : decode cX3_init 36 = .ok (.aload_n 0, 1) := by decide +kernel
theorem dX3_init_37 : decode cX3_init 37 = .ok (.sipush 256, 3) := by decide +kernel
theorem dX3_init_40 : decode cX3_init 40 = .ok (.newarray .int, 2) := by decide +kernel
theorem dX3_init_42 : decode cX3_init 42 = .ok (.putfield 24, 3) := by decide +kernel
theorem dX3_init_45 : decode cX3_init 45 = .ok (.aload_n 0, 1) := by decide +kernel
theorem dX3_init_46 : decode cX3_init 46 = .ok (.getfield 9, 3) := by decide +kernel
theorem dX3_init_49 : decode cX3_init 49 = .ok (.sipush 200, 3) := by decide +kernel
theorem dX3_init_52 : decode cX3_init 52 = .ok (.invokestatic 27, 3) := by decide +kernel
theorem dX3_init_55 : decode cX3_init 55 = .ok (.aload_n 0, 1) := by decide +kernel
theorem dX3_init_56 : decode cX3_init 56 = .ok (.getfield 15, 3) := by decide +kernel
theorem dX3_init_59 : decode cX3_init 59 = .ok (.sipush 600, 3) := by decide +kernel
theorem dX3_init_62 : decode cX3_init 62 = .ok (.invokestatic 27, 3) := by decide +kernel
theorem dX3_init_65 : decode cX3_init 65 = .ok (.aload_n 0, 1) := by decide +kernel
theorem dX3_init_66 : decode cX3_init 66 = .ok (.getfield 18, 3) := by decide +kernel
theorem dX3_init_69 : decode cX3_init 69 = .ok (.iconst 1, 1) := by decide +kernel
theorem dX3_init_70 : decode cX3_init 70 = .ok (.invokestatic 27, 3) := by decide +kernel
theorem dX3_init_73 : decode cX3_init 73 = .ok (.aload_n 0, 1) := by decide +kernel
theorem dX3_init_74 : decode cX3_init 74 = .ok (.getfield 21, 3) := by decide +kernel
theorem dX3_init_77 : decode cX3_init 77 = .ok (.iconst 2, 1) := by decide +kernel
theorem dX3_init_78 : decode cX3_init 78 = .ok (.invokestatic 27, 3) := by decide +kernel
theorem dX3_init_81 : decode cX3_init 81 = .ok (.aload_n 0, 1) := by decide +kernel
theorem dX3_init_82 : decode cX3_init 82 = .ok (.getfield 24, 3) := by decide +kernel
theorem dX3_init_85 : decode cX3_init 85 = .ok (.iconst 1, 1) := by decide +kernel
theorem dX3_init_86 : decode cX3_init 86 = .ok (.invokestatic 27, 3) := by decide +kernel
theorem dX3_init_89 : decode cX3_init 89 = .ok (.return_, 1) := by decide +kernel
theorem dX3_weigh_0 : decode cX3_weigh 0 = .ok (.iconst 0, 1) := by decide +kernel
theorem dX3_weigh_1 : decode cX3_weigh 1 = .ok (.istore_n 3, 1) := by decide +kernel
theorem dX3_weigh_2 : decode cX3_weigh 2 = .ok (.iload_n 2, 1) := by decide +kernel
theorem dX3_weigh_3 : decode cX3_weigh 3 = .ok (.istore 4, 2) := by decide +kernel
theorem dX3_weigh_5 : decode cX3_weigh 5 = .ok (.iconst 0, 1) := by decide +kernel
theorem dX3_weigh_6 : decode cX3_weigh 6 = .ok (.istore 5, 2) := by decide +kernel
theorem dX3_weigh_8 : decode cX3_weigh 8 = .ok (.iload 5, 2) := by decide +kernel
theorem dX3_weigh_10 : decode cX3_weigh 10 = .ok (.bipush 32, 2) := by decide +kernel
theorem dX3_weigh_12 : decode cX3_weigh 12 = .ok (.if_icmp .ge 43, 3) := by decide +kernel
theorem dX3_weigh_15 : decode cX3_weigh 15 = .ok (.iload 4, 2) := by decide +kernel
theorem dX3_weigh_17 : decode cX3_weigh 17 = .ok (.ifCond .eq 38, 3) := by decide +kernel
theorem dX3_weigh_20 : decode cX3_weigh 20 = .ok (.iload 4, 2) := by decide +kernel
theorem dX3_weigh_22 : decode cX3_weigh 22 = .ok (.iconst 1, 1) := by decide +kernel
theorem dX3_weigh_23 : decode cX3_weigh 23 = .ok (.iand, 1) := by decide +kernel
theorem dX3_weigh_24 : decode cX3_weigh 24 = .ok (.iconst 1, 1) := by decide +kernel
theorem dX3_weigh_25 : decode cX3_weigh 25 = .ok (.if_icmp .ne 18, 3) := by decide +kernel
theorem dX3_weigh_28 : decode cX3_weigh 28 = .ok (.iload_n 3, 1) := by decide +kernel
theorem dX3_weigh_29 : decode cX3_weigh 29 = .ok (.aload_n 0, 1) := by decide +kernel
theorem dX3_weigh_30 : decode cX3_weigh 30 = .ok (.getfield 24, 3) := by decide +kernel
theorem dX3_weigh_33 : decode cX3_weigh 33 = .ok (.iload_n 1, 1) := by decide +kernel
theorem dX3_weigh_34 : decode cX3_weigh 34 = .ok (.bipush 32, 2) := by decide +kernel
theorem dX3_weigh_36 : decode cX3_weigh 36 = .ok (.imul, 1) := by decide +kernel
theorem dX3_weigh_37 : decode cX3_weigh 37 = .ok (.iload 5, 2) := by decide +kernel
theorem dX3_weigh_39 : decode cX3_weigh 39 = .ok (.iadd, 1) := by decide +kernel
theorem dX3_weigh_40 : decode cX3_weigh 40 = .ok (.iaload, 1) := by decide +kernel
theorem dX3_weigh_41 : decode cX3_weigh 41 = .ok (.iadd, 1) := by decide +kernel
theorem dX3_weigh_42 : decode cX3_weigh 42 = .ok (.istore_n 3, 1) := by decide +kernel
theorem dX3_weigh_43 : decode cX3_weigh 43 = .ok (.iload 4, 2) := by decide +kernel
theorem dX3_weigh_45 : decode cX3_weigh 45 = .ok (.iconst 1, 1) := by decide +kernel
theorem dX3_weigh_46 : decode cX3_weigh 46 = .ok (.iushr, 1) := by decide +kernel
theorem dX3_weigh_47 : decode cX3_weigh 47 = .ok (.istore 4, 2) := by decide +kernel
theorem dX3_weigh_49 : decode cX3_weigh 49 = .ok (.iinc 5 1, 3) := by decide +kernel
theorem dX3_weigh_52 : decode cX3_weigh 52 = .ok (.goto (-44), 3) := by decide +kernel
theorem dX3_weigh_55 : decode cX3_weigh 55 = .ok (.iload_n 3, 1) := by decide +kernel
theorem dX3_weigh_56 : decode cX3_weigh 56 = .ok (.ireturn, 1) := by decide +kernel
theorem dX3_meetsNeed_0 : decode cX3_meetsNeed 0 = .ok (.iload_n 2, 1) := by decide +kernel
theorem dX3_meetsNeed_1 : decode cX3_meetsNeed 1 = .ok (.aload_n 0, 1) := by decide +kernel
theorem dX3_meetsNeed_2 : decode cX3_meetsNeed 2 = .ok (.getfield 21, 3) := by decide +kernel
theorem dX3_meetsNeed_5 : decode cX3_meetsNeed 5 = .ok (.iload_n 1, 1) := by decide +kernel
theorem dX3_meetsNeed_6 : decode cX3_meetsNeed 6 = .ok (.iaload, 1) := by decide +kernel
theorem dX3_meetsNeed_7 : decode cX3_meetsNeed 7 = .ok (.imul, 1) := by decide +kernel
theorem dX3_meetsNeed_8 : decode cX3_meetsNeed 8 = .ok (.aload_n 0, 1) := by decide +kernel
theorem dX3_meetsNeed_9 : decode cX3_meetsNeed 9 = .ok (.getfield 18, 3) := by decide +kernel
theorem dX3_meetsNeed_12 : decode cX3_meetsNeed 12 = .ok (.iload_n 1, 1) := by decide +kernel
theorem dX3_meetsNeed_13 : decode cX3_meetsNeed 13 = .ok (.iaload, 1) := by decide +kernel
theorem dX3_meetsNeed_14 : decode cX3_meetsNeed 14 = .ok (.iload_n 3, 1) := by decide +kernel
theorem dX3_meetsNeed_15 : decode cX3_meetsNeed 15 = .ok (.imul, 1) := by decide +kernel
theorem dX3_meetsNeed_16 : decode cX3_meetsNeed 16 = .ok (.if_icmp .lt 7, 3) := by decide +kernel
theorem dX3_meetsNeed_19 : decode cX3_meetsNeed 19 = .ok (.iconst 1, 1) := by decide +kernel
theorem dX3_meetsNeed_20 : decode cX3_meetsNeed 20 = .ok (.goto 4, 3) := by decide +kernel
theorem dX3_meetsNeed_23 : decode cX3_meetsNeed 23 = .ok (.iconst 0, 1) := by decide +kernel
theorem dX3_meetsNeed_24 : decode cX3_meetsNeed 24 = .ok (.ireturn, 1) := by decide +kernel
theorem dL_rule_0 : decode cL_rule 0 = .ok (.aload_n 0, 1) := by decide +kernel
theorem dL_rule_1 : decode cL_rule 1 = .ok (.iload_n 1, 1) := by decide +kernel
theorem dL_rule_2 : decode cL_rule 2 = .ok (.iload_n 2, 1) := by decide +kernel
theorem dL_rule_3 : decode cL_rule 3 = .ok (.iload_n 3, 1) := by decide +kernel
theorem dL_rule_4 : decode cL_rule 4 = .ok (.iload 4, 2) := by decide +kernel
theorem dL_rule_6 : decode cL_rule 6 = .ok (.iload 5, 2) := by decide +kernel
theorem dL_rule_8 : decode cL_rule 8 = .ok (.invokevirtual 7, 3) := by decide +kernel
theorem dL_rule_11 : decode cL_rule 11 = .ok (.goto 11, 3) := by decide +kernel
theorem dL_rule_14 : decode cL_rule 14 = .ok (.astore 6, 2) := by decide +kernel
theorem dL_rule_16 : decode cL_rule 16 = .ok (.iconst 1, 1) := by decide +kernel
theorem dL_rule_17 : decode cL_rule 17 = .ok (.ireturn, 1) := by decide +kernel
theorem dL_rule_18 : decode cL_rule 18 = .ok (.astore 6, 2) := by decide +kernel
theorem dL_rule_20 : decode cL_rule 20 = .ok (.iconst 2, 1) := by decide +kernel
theorem dL_rule_21 : decode cL_rule 21 = .ok (.ireturn, 1) := by decide +kernel
theorem dL_rule_22 : decode cL_rule 22 = .ok (.iconst 0, 1) := by decide +kernel
theorem dL_rule_23 : decode cL_rule 23 = .ok (.ireturn, 1) := by decide +kernel
theorem dL_weight_0 : decode cL_weight 0 = .ok (.aload_n 0, 1) := by decide +kernel
theorem dL_weight_1 : decode cL_weight 1 = .ok (.iload_n 1, 1) := by decide +kernel
theorem dL_weight_2 : decode cL_weight 2 = .ok (.iload_n 2, 1) := by decide +kernel
theorem dL_weight_3 : decode cL_weight 3 = .ok (.iload_n 3, 1) := by decide +kernel
theorem dL_weight_4 : decode cL_weight 4 = .ok (.invokevirtual 17, 3) := by decide +kernel
theorem dL_weight_7 : decode cL_weight 7 = .ok (.goto 11, 3) := by decide +kernel
theorem dL_weight_10 : decode cL_weight 10 = .ok (.astore 4, 2) := by decide +kernel
theorem dL_weight_12 : decode cL_weight 12 = .ok (.iconst 1, 1) := by decide +kernel
theorem dL_weight_13 : decode cL_weight 13 = .ok (.ireturn, 1) := by decide +kernel
theorem dL_weight_14 : decode cL_weight 14 = .ok (.astore 4, 2) := by decide +kernel
theorem dL_weight_16 : decode cL_weight 16 = .ok (.iconst 2, 1) := by decide +kernel
theorem dL_weight_17 : decode cL_weight 17 = .ok (.ireturn, 1) := by decide +kernel
theorem dL_weight_18 : decode cL_weight 18 = .ok (.iconst 0, 1) := by decide +kernel
theorem dL_weight_19 : decode cL_weight 19 = .ok (.ireturn, 1) := by decide +kernel
theorem dL_point_0 : decode cL_point 0 = .ok (.aload_n 3, 1) := by decide +kernel
theorem dL_point_1 : decode cL_point 1 = .ok (.iconst 0, 1) := by decide +kernel
theorem dL_point_2 : decode cL_point 2 = .ok (.aload_n 0, 1) := by decide +kernel
theorem dL_point_3 : decode cL_point 3 = .ok (.iload_n 1, 1) := by decide +kernel
theorem dL_point_4 : decode cL_point 4 = .ok (.iload_n 2, 1) := by decide +kernel
theorem dL_point_5 : decode cL_point 5 = .ok (.invokevirtual 21, 3) := by decide +kernel
theorem dL_point_8 : decode cL_point 8 = .ok (.i2l, 1) := by decide +kernel
theorem dL_point_9 : decode cL_point 9 = .ok (.lastore, 1) := by decide +kernel
theorem dL_point_10 : decode cL_point 10 = .ok (.goto 15, 3) := by decide +kernel
theorem dL_point_13 : decode cL_point 13 = .ok (.astore 4, 2) := by decide +kernel
theorem dL_point_15 : decode cL_point 15 = .ok (.iconst 1, 1) := by decide +kernel
theorem dL_point_16 : decode cL_point 16 = .ok (.ireturn, 1) := by decide +kernel
theorem dL_point_17 : decode cL_point 17 = .ok (.astore 4, 2) := by decide +kernel
theorem dL_point_19 : decode cL_point 19 = .ok (.iconst 2, 1) := by decide +kernel
theorem dL_point_20 : decode cL_point 20 = .ok (.ireturn, 1) := by decide +kernel
theorem dL_point_21 : decode cL_point 21 = .ok (.astore 4, 2) := by decide +kernel
theorem dL_point_23 : decode cL_point 23 = .ok (.iconst 3, 1) := by decide +kernel
theorem dL_point_24 : decode cL_point 24 = .ok (.ireturn, 1) := by decide +kernel
theorem dL_point_25 : decode cL_point 25 = .ok (.iconst 0, 1) := by decide +kernel
theorem dL_point_26 : decode cL_point 26 = .ok (.ireturn, 1) := by decide +kernel
theorem dL_call_0 : decode cL_call 0 = .ok (.aload 7, 2) := by decide +kernel
theorem dL_call_2 : decode cL_call 2 = .ok (.iconst 0, 1) := by decide +kernel
theorem dL_call_3 : decode cL_call 3 = .ok (.aload_n 0, 1) := by decide +kernel
theorem dL_call_4 : decode cL_call 4 = .ok (.iload_n 1, 1) := by decide +kernel
theorem dL_call_5 : decode cL_call 5 = .ok (.iload_n 2, 1) := by decide +kernel
theorem dL_call_6 : decode cL_call 6 = .ok (.iload_n 3, 1) := by decide +kernel
theorem dL_call_7 : decode cL_call 7 = .ok (.iload 4, 2) := by decide +kernel
theorem dL_call_9 : decode cL_call 9 = .ok (.iload 5, 2) := by decide +kernel
theorem dL_call_11 : decode cL_call 11 = .ok (.iload 6, 2) := by decide +kernel
theorem dL_call_13 : decode cL_call 13 = .ok (.invokevirtual 27, 3) := by decide +kernel
theorem dL_call_16 : decode cL_call 16 = .ok (.i2l, 1) := by decide +kernel
theorem dL_call_17 : decode cL_call 17 = .ok (.lastore, 1) := by decide +kernel
theorem dL_call_18 : decode cL_call 18 = .ok (.goto 15, 3) := by decide +kernel
theorem dL_call_21 : decode cL_call 21 = .ok (.astore 8, 2) := by decide +kernel
theorem dL_call_23 : decode cL_call 23 = .ok (.iconst 1, 1) := by decide +kernel
theorem dL_call_24 : decode cL_call 24 = .ok (.ireturn, 1) := by decide +kernel
theorem dL_call_25 : decode cL_call 25 = .ok (.astore 8, 2) := by decide +kernel
theorem dL_call_27 : decode cL_call 27 = .ok (.iconst 2, 1) := by decide +kernel
theorem dL_call_28 : decode cL_call 28 = .ok (.ireturn, 1) := by decide +kernel
theorem dL_call_29 : decode cL_call 29 = .ok (.astore 8, 2) := by decide +kernel
theorem dL_call_31 : decode cL_call 31 = .ok (.iconst 3, 1) := by decide +kernel
theorem dL_call_32 : decode cL_call 32 = .ok (.ireturn, 1) := by decide +kernel
theorem dL_call_33 : decode cL_call 33 = .ok (.iconst 0, 1) := by decide +kernel
theorem dL_call_34 : decode cL_call 34 = .ok (.ireturn, 1) := by decide +kernel
theorem dL_reasonFor_0 : decode cL_reasonFor 0 = .ok (.aload 7, 2) := by decide +kernel
theorem dL_reasonFor_2 : decode cL_reasonFor 2 = .ok (.iconst 0, 1) := by decide +kernel
theorem dL_reasonFor_3 : decode cL_reasonFor 3 = .ok (.aload_n 0, 1) := by decide +kernel
theorem dL_reasonFor_4 : decode cL_reasonFor 4 = .ok (.iload_n 1, 1) := by decide +kernel
theorem dL_reasonFor_5 : decode cL_reasonFor 5 = .ok (.iload_n 2, 1) := by decide +kernel
theorem dL_reasonFor_6 : decode cL_reasonFor 6 = .ok (.iload_n 3, 1) := by decide +kernel
theorem dL_reasonFor_7 : decode cL_reasonFor 7 = .ok (.iload 4, 2) := by decide +kernel
theorem dL_reasonFor_9 : decode cL_reasonFor 9 = .ok (.iload 5, 2) := by decide +kernel
theorem dL_reasonFor_11 : decode cL_reasonFor 11 = .ok (.iload 6, 2) := by decide +kernel
theorem dL_reasonFor_13 : decode cL_reasonFor 13 = .ok (.invokevirtual 31, 3) := by decide +kernel
theorem dL_reasonFor_16 : decode cL_reasonFor 16 = .ok (.i2l, 1) := by decide +kernel
theorem dL_reasonFor_17 : decode cL_reasonFor 17 = .ok (.lastore, 1) := by decide +kernel
theorem dL_reasonFor_18 : decode cL_reasonFor 18 = .ok (.goto 11, 3) := by decide +kernel
theorem dL_reasonFor_21 : decode cL_reasonFor 21 = .ok (.astore 8, 2) := by decide +kernel
theorem dL_reasonFor_23 : decode cL_reasonFor 23 = .ok (.iconst 1, 1) := by decide +kernel
theorem dL_reasonFor_24 : decode cL_reasonFor 24 = .ok (.ireturn, 1) := by decide +kernel
theorem dL_reasonFor_25 : decode cL_reasonFor 25 = .ok (.astore 8, 2) := by decide +kernel
theorem dL_reasonFor_27 : decode cL_reasonFor 27 = .ok (.iconst 2, 1) := by decide +kernel
theorem dL_reasonFor_28 : decode cL_reasonFor 28 = .ok (.ireturn, 1) := by decide +kernel
theorem dL_reasonFor_29 : decode cL_reasonFor 29 = .ok (.iconst 0, 1) := by decide +kernel
theorem dL_reasonFor_30 : decode cL_reasonFor 30 = .ok (.ireturn, 1) := by decide +kernel
theorem dL_mark_0 : decode cL_mark 0 = .ok (.aload_n 0, 1) := by decide +kernel
theorem dL_mark_1 : decode cL_mark 1 = .ok (.iload_n 1, 1) := by decide +kernel
theorem dL_mark_2 : decode cL_mark 2 = .ok (.iload_n 2, 1) := by decide +kernel
theorem dL_mark_3 : decode cL_mark 3 = .ok (.invokevirtual 34, 3) := by decide +kernel
theorem dL_mark_6 : decode cL_mark 6 = .ok (.goto 9, 3) := by decide +kernel
theorem dL_mark_9 : decode cL_mark 9 = .ok (.astore_n 3, 1) := by decide +kernel
theorem dL_mark_10 : decode cL_mark 10 = .ok (.iconst 1, 1) := by decide +kernel
theorem dL_mark_11 : decode cL_mark 11 = .ok (.ireturn, 1) := by decide +kernel
theorem dL_mark_12 : decode cL_mark 12 = .ok (.astore_n 3, 1) := by decide +kernel
theorem dL_mark_13 : decode cL_mark 13 = .ok (.iconst 2, 1) := by decide +kernel
theorem dL_mark_14 : decode cL_mark 14 = .ok (.ireturn, 1) := by decide +kernel
theorem dL_mark_15 : decode cL_mark 15 = .ok (.iconst 0, 1) := by decide +kernel
theorem dL_mark_16 : decode cL_mark 16 = .ok (.ireturn, 1) := by decide +kernel
theorem dL_split_0 : decode cL_split 0 = .ok (.aload_n 2, 1) := by decide +kernel
theorem dL_split_1 : decode cL_split 1 = .ok (.iconst 0, 1) := by decide +kernel
theorem dL_split_2 : decode cL_split 2 = .ok (.aload_n 0, 1) := by decide +kernel
theorem dL_split_3 : decode cL_split 3 = .ok (.iload_n 1, 1) := by decide +kernel
theorem dL_split_4 : decode cL_split 4 = .ok (.invokevirtual 38, 3) := by decide +kernel
theorem dL_split_7 : decode cL_split 7 = .ok (.i2l, 1) := by decide +kernel
theorem dL_split_8 : decode cL_split 8 = .ok (.lastore, 1) := by decide +kernel
theorem dL_split_9 : decode cL_split 9 = .ok (.goto 12, 3) := by decide +kernel
theorem dL_split_12 : decode cL_split 12 = .ok (.astore_n 3, 1) := by decide +kernel
theorem dL_split_13 : decode cL_split 13 = .ok (.iconst 1, 1) := by decide +kernel
theorem dL_split_14 : decode cL_split 14 = .ok (.ireturn, 1) := by decide +kernel
theorem dL_split_15 : decode cL_split 15 = .ok (.astore_n 3, 1) := by decide +kernel
theorem dL_split_16 : decode cL_split 16 = .ok (.iconst 2, 1) := by decide +kernel
theorem dL_split_17 : decode cL_split 17 = .ok (.ireturn, 1) := by decide +kernel
theorem dL_split_18 : decode cL_split 18 = .ok (.astore_n 3, 1) := by decide +kernel
theorem dL_split_19 : decode cL_split 19 = .ok (.iconst 3, 1) := by decide +kernel
theorem dL_split_20 : decode cL_split 20 = .ok (.ireturn, 1) := by decide +kernel
theorem dL_split_21 : decode cL_split 21 = .ok (.iconst 0, 1) := by decide +kernel
theorem dL_split_22 : decode cL_split 22 = .ok (.ireturn, 1) := by decide +kernel
theorem dL_merge_0 : decode cL_merge 0 = .ok (.aload_n 3, 1) := by decide +kernel
theorem dL_merge_1 : decode cL_merge 1 = .ok (.iconst 0, 1) := by decide +kernel
theorem dL_merge_2 : decode cL_merge 2 = .ok (.aload_n 0, 1) := by decide +kernel
theorem dL_merge_3 : decode cL_merge 3 = .ok (.iload_n 1, 1) := by decide +kernel
theorem dL_merge_4 : decode cL_merge 4 = .ok (.iload_n 2, 1) := by decide +kernel
theorem dL_merge_5 : decode cL_merge 5 = .ok (.invokevirtual 44, 3) := by decide +kernel
theorem dL_merge_8 : decode cL_merge 8 = .ok (.i2l, 1) := by decide +kernel
theorem dL_merge_9 : decode cL_merge 9 = .ok (.lastore, 1) := by decide +kernel
theorem dL_merge_10 : decode cL_merge 10 = .ok (.goto 11, 3) := by decide +kernel
theorem dL_merge_13 : decode cL_merge 13 = .ok (.astore 4, 2) := by decide +kernel
theorem dL_merge_15 : decode cL_merge 15 = .ok (.iconst 1, 1) := by decide +kernel
theorem dL_merge_16 : decode cL_merge 16 = .ok (.ireturn, 1) := by decide +kernel
theorem dL_merge_17 : decode cL_merge 17 = .ok (.astore 4, 2) := by decide +kernel
theorem dL_merge_19 : decode cL_merge 19 = .ok (.iconst 2, 1) := by decide +kernel
theorem dL_merge_20 : decode cL_merge 20 = .ok (.ireturn, 1) := by decide +kernel
theorem dL_merge_21 : decode cL_merge 21 = .ok (.iconst 0, 1) := by decide +kernel
theorem dL_merge_22 : decode cL_merge 22 = .ok (.ireturn, 1) := by decide +kernel
theorem dL_watch_0 : decode cL_watch 0 = .ok (.aload_n 0, 1) := by decide +kernel
theorem dL_watch_1 : decode cL_watch 1 = .ok (.iload_n 1, 1) := by decide +kernel
theorem dL_watch_2 : decode cL_watch 2 = .ok (.iload_n 2, 1) := by decide +kernel
theorem dL_watch_3 : decode cL_watch 3 = .ok (.iload_n 3, 1) := by decide +kernel
theorem dL_watch_4 : decode cL_watch 4 = .ok (.iload 4, 2) := by decide +kernel
theorem dL_watch_6 : decode cL_watch 6 = .ok (.invokevirtual 47, 3) := by decide +kernel
theorem dL_watch_9 : decode cL_watch 9 = .ok (.goto 15, 3) := by decide +kernel
theorem dL_watch_12 : decode cL_watch 12 = .ok (.astore 5, 2) := by decide +kernel
theorem dL_watch_14 : decode cL_watch 14 = .ok (.iconst 1, 1) := by decide +kernel
theorem dL_watch_15 : decode cL_watch 15 = .ok (.ireturn, 1) := by decide +kernel
theorem dL_watch_16 : decode cL_watch 16 = .ok (.astore 5, 2) := by decide +kernel
theorem dL_watch_18 : decode cL_watch 18 = .ok (.iconst 2, 1) := by decide +kernel
theorem dL_watch_19 : decode cL_watch 19 = .ok (.ireturn, 1) := by decide +kernel
theorem dL_watch_20 : decode cL_watch 20 = .ok (.astore 5, 2) := by decide +kernel
theorem dL_watch_22 : decode cL_watch 22 = .ok (.iconst 3, 1) := by decide +kernel
theorem dL_watch_23 : decode cL_watch 23 = .ok (.ireturn, 1) := by decide +kernel
theorem dL_watch_24 : decode cL_watch 24 = .ok (.iconst 0, 1) := by decide +kernel
theorem dL_watch_25 : decode cL_watch 25 = .ok (.ireturn, 1) := by decide +kernel
theorem dL_state_0 : decode cL_state 0 = .ok (.aload_n 0, 1) := by decide +kernel
theorem dL_state_1 : decode cL_state 1 = .ok (.iload_n 1, 1) := by decide +kernel
theorem dL_state_2 : decode cL_state 2 = .ok (.iload_n 2, 1) := by decide +kernel
theorem dL_state_3 : decode cL_state 3 = .ok (.invokevirtual 51, 3) := by decide +kernel
theorem dL_state_6 : decode cL_state 6 = .ok (.goto 12, 3) := by decide +kernel
theorem dL_state_9 : decode cL_state 9 = .ok (.astore_n 3, 1) := by decide +kernel
theorem dL_state_10 : decode cL_state 10 = .ok (.iconst 1, 1) := by decide +kernel
theorem dL_state_11 : decode cL_state 11 = .ok (.ireturn, 1) := by decide +kernel
theorem dL_state_12 : decode cL_state 12 = .ok (.astore_n 3, 1) := by decide +kernel
theorem dL_state_13 : decode cL_state 13 = .ok (.iconst 2, 1) := by decide +kernel
theorem dL_state_14 : decode cL_state 14 = .ok (.ireturn, 1) := by decide +kernel
theorem dL_state_15 : decode cL_state 15 = .ok (.astore_n 3, 1) := by decide +kernel
theorem dL_state_16 : decode cL_state 16 = .ok (.iconst 3, 1) := by decide +kernel
theorem dL_state_17 : decode cL_state 17 = .ok (.ireturn, 1) := by decide +kernel
theorem dL_state_18 : decode cL_state 18 = .ok (.iconst 0, 1) := by decide +kernel
theorem dL_state_19 : decode cL_state 19 = .ok (.ireturn, 1) := by decide +kernel
theorem dL_share_0 : decode cL_share 0 = .ok (.aload_n 3, 1) := by decide +kernel
theorem dL_share_1 : decode cL_share 1 = .ok (.iconst 0, 1) := by decide +kernel
theorem dL_share_2 : decode cL_share 2 = .ok (.aload_n 0, 1) := by decide +kernel
theorem dL_share_3 : decode cL_share 3 = .ok (.iload_n 1, 1) := by decide +kernel
theorem dL_share_4 : decode cL_share 4 = .ok (.iload_n 2, 1) := by decide +kernel
theorem dL_share_5 : decode cL_share 5 = .ok (.invokevirtual 54, 3) := by decide +kernel
theorem dL_share_8 : decode cL_share 8 = .ok (.i2l, 1) := by decide +kernel
theorem dL_share_9 : decode cL_share 9 = .ok (.lastore, 1) := by decide +kernel
theorem dL_share_10 : decode cL_share 10 = .ok (.goto 11, 3) := by decide +kernel
theorem dL_share_13 : decode cL_share 13 = .ok (.astore 4, 2) := by decide +kernel
theorem dL_share_15 : decode cL_share 15 = .ok (.iconst 1, 1) := by decide +kernel
theorem dL_share_16 : decode cL_share 16 = .ok (.ireturn, 1) := by decide +kernel
theorem dL_share_17 : decode cL_share 17 = .ok (.astore 4, 2) := by decide +kernel
theorem dL_share_19 : decode cL_share 19 = .ok (.iconst 2, 1) := by decide +kernel
theorem dL_share_20 : decode cL_share 20 = .ok (.ireturn, 1) := by decide +kernel
theorem dL_share_21 : decode cL_share 21 = .ok (.iconst 0, 1) := by decide +kernel
theorem dL_share_22 : decode cL_share 22 = .ok (.ireturn, 1) := by decide +kernel
theorem dL_agree_0 : decode cL_agree 0 = .ok (.aload_n 3, 1) := by decide +kernel
theorem dL_agree_1 : decode cL_agree 1 = .ok (.iconst 0, 1) := by decide +kernel
theorem dL_agree_2 : decode cL_agree 2 = .ok (.aload_n 0, 1) := by decide +kernel
theorem dL_agree_3 : decode cL_agree 3 = .ok (.iload_n 1, 1) := by decide +kernel
theorem dL_agree_4 : decode cL_agree 4 = .ok (.iload_n 2, 1) := by decide +kernel
theorem dL_agree_5 : decode cL_agree 5 = .ok (.invokevirtual 59, 3) := by decide +kernel
theorem dL_agree_8 : decode cL_agree 8 = .ok (.i2l, 1) := by decide +kernel
theorem dL_agree_9 : decode cL_agree 9 = .ok (.lastore, 1) := by decide +kernel
theorem dL_agree_10 : decode cL_agree 10 = .ok (.goto 7, 3) := by decide +kernel
theorem dL_agree_13 : decode cL_agree 13 = .ok (.astore 4, 2) := by decide +kernel
theorem dL_agree_15 : decode cL_agree 15 = .ok (.iconst 1, 1) := by decide +kernel
theorem dL_agree_16 : decode cL_agree 16 = .ok (.ireturn, 1) := by decide +kernel
theorem dL_agree_17 : decode cL_agree 17 = .ok (.iconst 0, 1) := by decide +kernel
theorem dL_agree_18 : decode cL_agree 18 = .ok (.ireturn, 1) := by decide +kernel
theorem dL_callAt_0 : decode cL_callAt 0 = .ok (.aload_n 3, 1) := by decide +kernel
theorem dL_callAt_1 : decode cL_callAt 1 = .ok (.iconst 0, 1) := by decide +kernel
theorem dL_callAt_2 : decode cL_callAt 2 = .ok (.aload_n 0, 1) := by decide +kernel
