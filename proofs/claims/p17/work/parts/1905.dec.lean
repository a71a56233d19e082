theorem dX6_again_76 : decode cX6_again 76 = .ok (.i2l, 1) := by decide +kernel
theorem dX6_again_77 : decode cX6_again 77 = .ok (.lcmp, 1) := by decide +kernel
theorem dX6_again_78 : decode cX6_again 78 = .ok (.ifCond .gt 8, 3) := by decide +kernel
theorem dX6_again_81 : decode cX6_again 81 = .ok (.iload 4, 2) := by decide +kernel
theorem dX6_again_83 : decode cX6_again 83 = .ok (.goto 4, 3) := by decide +kernel
theorem dX6_again_86 : decode cX6_again 86 = .ok (.iconst (-1), 1) := by decide +kernel
theorem dX6_again_87 : decode cX6_again 87 = .ok (.ireturn, 1) := by decide +kernel
theorem dX6_onStretch_0 : decode cX6_onStretch 0 = .ok (.iconst 0, 1) := by decide +kernel
theorem dX6_onStretch_1 : decode cX6_onStretch 1 = .ok (.istore 4, 2) := by decide +kernel
theorem dX6_onStretch_3 : decode cX6_onStretch 3 = .ok (.iload 4, 2) := by decide +kernel
theorem dX6_onStretch_5 : decode cX6_onStretch 5 = .ok (.aload_n 0, 1) := by decide +kernel
theorem dX6_onStretch_6 : decode cX6_onStretch 6 = .ok (.getfield 81, 3) := by decide +kernel
theorem dX6_onStretch_9 : decode cX6_onStretch 9 = .ok (.if_icmp .ge 74, 3) := by decide +kernel
theorem dX6_onStretch_12 : decode cX6_onStretch 12 = .ok (.aload_n 0, 1) := by decide +kernel
theorem dX6_onStretch_13 : decode cX6_onStretch 13 = .ok (.getfield 58, 3) := by decide +kernel
theorem dX6_onStretch_16 : decode cX6_onStretch 16 = .ok (.iload 4, 2) := by decide +kernel
theorem dX6_onStretch_18 : decode cX6_onStretch 18 = .ok (.iaload, 1) := by decide +kernel
theorem dX6_onStretch_19 : decode cX6_onStretch 19 = .ok (.ifCond .ne 32, 3) := by decide +kernel
theorem dX6_onStretch_22 : decode cX6_onStretch 22 = .ok (.aload_n 0, 1) := by decide +kernel
theorem dX6_onStretch_23 : decode cX6_onStretch 23 = .ok (.getfield 61, 3) := by decide +kernel
theorem dX6_onStretch_26 : decode cX6_onStretch 26 = .ok (.iload 4, 2) := by decide +kernel
theorem dX6_onStretch_28 : decode cX6_onStretch 28 = .ok (.iaload, 1) := by decide +kernel
theorem dX6_onStretch_29 : decode cX6_onStretch 29 = .ok (.ifCond .lt 22, 3) := by decide +kernel
theorem dX6_onStretch_32 : decode cX6_onStretch 32 = .ok (.aload_n 0, 1) := by decide +kernel
theorem dX6_onStretch_33 : decode cX6_onStretch 33 = .ok (.getfield 34, 3) := by decide +kernel
theorem dX6_onStretch_36 : decode cX6_onStretch 36 = .ok (.aload_n 0, 1) := by decide +kernel
theorem dX6_onStretch_37 : decode cX6_onStretch 37 = .ok (.iload 4, 2) := by decide +kernel
theorem dX6_onStretch_39 : decode cX6_onStretch 39 = .ok (.invokevirtual 124, 3) := by decide +kernel
theorem dX6_onStretch_42 : decode cX6_onStretch 42 = .ok (.iaload, 1) := by decide +kernel
theorem dX6_onStretch_43 : decode cX6_onStretch 43 = .ok (.iload_n 1, 1) := by decide +kernel
theorem dX6_onStretch_44 : decode cX6_onStretch 44 = .ok (.if_icmp .ne 7, 3) := by decide +kernel
theorem dX6_onStretch_47 : decode cX6_onStretch 47 = .ok (.iconst 1, 1) := by decide +kernel
theorem dX6_onStretch_48 : decode cX6_onStretch 48 = .ok (.goto 4, 3) := by decide +kernel
theorem dX6_onStretch_51 : decode cX6_onStretch 51 = .ok (.iconst 0, 1) := by decide +kernel
theorem dX6_onStretch_52 : decode cX6_onStretch 52 = .ok (.istore 5, 2) := by decide +kernel
theorem dX6_onStretch_54 : decode cX6_onStretch 54 = .ok (.iload 5, 2) := by decide +kernel
theorem dX6_onStretch_56 : decode cX6_onStretch 56 = .ok (.ifCond .eq 21, 3) := by decide +kernel
theorem dX6_onStretch_59 : decode cX6_onStretch 59 = .ok (.aload_n 0, 1) := by decide +kernel
theorem dX6_onStretch_60 : decode cX6_onStretch 60 = .ok (.iload 4, 2) := by decide +kernel
theorem dX6_onStretch_62 : decode cX6_onStretch 62 = .ok (.iload_n 2, 1) := by decide +kernel
theorem dX6_onStretch_63 : decode cX6_onStretch 63 = .ok (.iload_n 3, 1) := by decide +kernel
theorem dX6_onStretch_64 : decode cX6_onStretch 64 = .ok (.invokevirtual 128, 3) := by decide +kernel
theorem dX6_onStretch_67 : decode cX6_onStretch 67 = .ok (.ifCond .eq 10, 3) := by decide +kernel
theorem dX6_onStretch_70 : decode cX6_onStretch 70 = .ok (.aload_n 0, 1) := by decide +kernel
theorem dX6_onStretch_71 : decode cX6_onStretch 71 = .ok (.iload 4, 2) := by decide +kernel
theorem dX6_onStretch_73 : decode cX6_onStretch 73 = .ok (.invokevirtual 124, 3) := by decide +kernel
theorem dX6_onStretch_76 : decode cX6_onStretch 76 = .ok (.ireturn, 1) := by decide +kernel
theorem dX6_onStretch_77 : decode cX6_onStretch 77 = .ok (.iinc 4 1, 3) := by decide +kernel
theorem dX6_onStretch_80 : decode cX6_onStretch 80 = .ok (.goto (-77), 3) := by decide +kernel
theorem dX6_onStretch_83 : decode cX6_onStretch 83 = .ok (.iconst (-1), 1) := by decide +kernel
theorem dX6_onStretch_84 : decode cX6_onStretch 84 = .ok (.ireturn, 1) := by decide +kernel
theorem dX6_isBetter_0 : decode cX6_isBetter 0 = .ok (.iload_n 2, 1) := by decide +kernel
theorem dX6_isBetter_1 : decode cX6_isBetter 1 = .ok (.ifCond .ge 5, 3) := by decide +kernel
theorem dX6_isBetter_4 : decode cX6_isBetter 4 = .ok (.iconst 1, 1) := by decide +kernel
theorem dX6_isBetter_5 : decode cX6_isBetter 5 = .ok (.ireturn, 1) := by decide +kernel
theorem dX6_isBetter_6 : decode cX6_isBetter 6 = .ok (.iload 4, 2) := by decide +kernel
theorem dX6_isBetter_8 : decode cX6_isBetter 8 = .ok (.ifCond .lt 53, 3) := by decide +kernel
theorem dX6_isBetter_11 : decode cX6_isBetter 11 = .ok (.aload_n 0, 1) := by decide +kernel
theorem dX6_isBetter_12 : decode cX6_isBetter 12 = .ok (.getfield 37, 3) := by decide +kernel
theorem dX6_isBetter_15 : decode cX6_isBetter 15 = .ok (.iload_n 1, 1) := by decide +kernel
theorem dX6_isBetter_16 : decode cX6_isBetter 16 = .ok (.iaload, 1) := by decide +kernel
theorem dX6_isBetter_17 : decode cX6_isBetter 17 = .ok (.ifCond .lt 44, 3) := by decide +kernel
theorem dX6_isBetter_20 : decode cX6_isBetter 20 = .ok (.aload_n 0, 1) := by decide +kernel
theorem dX6_isBetter_21 : decode cX6_isBetter 21 = .ok (.getfield 37, 3) := by decide +kernel
theorem dX6_isBetter_24 : decode cX6_isBetter 24 = .ok (.iload_n 2, 1) := by decide +kernel
theorem dX6_isBetter_25 : decode cX6_isBetter 25 = .ok (.iaload, 1) := by decide +kernel
theorem dX6_isBetter_26 : decode cX6_isBetter 26 = .ok (.ifCond .lt 35, 3) := by decide +kernel
theorem dX6_isBetter_29 : decode cX6_isBetter 29 = .ok (.aload_n 0, 1) := by decide +kernel
theorem dX6_isBetter_30 : decode cX6_isBetter 30 = .ok (.getfield 37, 3) := by decide +kernel
theorem dX6_isBetter_33 : decode cX6_isBetter 33 = .ok (.iload_n 1, 1) := by decide +kernel
theorem dX6_isBetter_34 : decode cX6_isBetter 34 = .ok (.iaload, 1) := by decide +kernel
theorem dX6_isBetter_35 : decode cX6_isBetter 35 = .ok (.iload 4, 2) := by decide +kernel
theorem dX6_isBetter_37 : decode cX6_isBetter 37 = .ok (.invokestatic 104, 3) := by decide +kernel
theorem dX6_isBetter_40 : decode cX6_isBetter 40 = .ok (.aload_n 0, 1) := by decide +kernel
theorem dX6_isBetter_41 : decode cX6_isBetter 41 = .ok (.getfield 37, 3) := by decide +kernel
theorem dX6_isBetter_44 : decode cX6_isBetter 44 = .ok (.iload_n 2, 1) := by decide +kernel
theorem dX6_isBetter_45 : decode cX6_isBetter 45 = .ok (.iaload, 1) := by decide +kernel
theorem dX6_isBetter_46 : decode cX6_isBetter 46 = .ok (.iload 4, 2) := by decide +kernel
theorem dX6_isBetter_48 : decode cX6_isBetter 48 = .ok (.invokestatic 104, 3) := by decide +kernel
theorem dX6_isBetter_51 : decode cX6_isBetter 51 = .ok (.lcmp, 1) := by decide +kernel
theorem dX6_isBetter_52 : decode cX6_isBetter 52 = .ok (.ifCond .ge 7, 3) := by decide +kernel
theorem dX6_isBetter_55 : decode cX6_isBetter 55 = .ok (.iconst 1, 1) := by decide +kernel
theorem dX6_isBetter_56 : decode cX6_isBetter 56 = .ok (.goto 4, 3) := by decide +kernel
theorem dX6_isBetter_59 : decode cX6_isBetter 59 = .ok (.iconst 0, 1) := by decide +kernel
theorem dX6_isBetter_60 : decode cX6_isBetter 60 = .ok (.ireturn, 1) := by decide +kernel
theorem dX6_isBetter_61 : decode cX6_isBetter 61 = .ok (.aload_n 0, 1) := by decide +kernel
theorem dX6_isBetter_62 : decode cX6_isBetter 62 = .ok (.aload_n 0, 1) := by decide +kernel
theorem dX6_isBetter_63 : decode cX6_isBetter 63 = .ok (.getfield 40, 3) := by decide +kernel
theorem dX6_isBetter_66 : decode cX6_isBetter 66 = .ok (.iload_n 1, 1) := by decide +kernel
theorem dX6_isBetter_67 : decode cX6_isBetter 67 = .ok (.iaload, 1) := by decide +kernel
theorem dX6_isBetter_68 : decode cX6_isBetter 68 = .ok (.iload 5, 2) := by decide +kernel
theorem dX6_isBetter_70 : decode cX6_isBetter 70 = .ok (.iand, 1) := by decide +kernel
theorem dX6_isBetter_71 : decode cX6_isBetter 71 = .ok (.iload_n 3, 1) := by decide +kernel
theorem dX6_isBetter_72 : decode cX6_isBetter 72 = .ok (.invokevirtual 100, 3) := by decide +kernel
theorem dX6_isBetter_75 : decode cX6_isBetter 75 = .ok (.aload_n 0, 1) := by decide +kernel
theorem dX6_isBetter_76 : decode cX6_isBetter 76 = .ok (.aload_n 0, 1) := by decide +kernel
theorem dX6_isBetter_77 : decode cX6_isBetter 77 = .ok (.getfield 40, 3) := by decide +kernel
theorem dX6_isBetter_80 : decode cX6_isBetter 80 = .ok (.iload_n 2, 1) := by decide +kernel
theorem dX6_isBetter_81 : decode cX6_isBetter 81 = .ok (.iaload, 1) := by decide +kernel
theorem dX6_isBetter_82 : decode cX6_isBetter 82 = .ok (.iload 5, 2) := by decide +kernel
theorem dX6_isBetter_84 : decode cX6_isBetter 84 = .ok (.ior, 1) := by decide +kernel
theorem dX6_isBetter_85 : decode cX6_isBetter 85 = .ok (.iload_n 3, 1) := by decide +kernel
theorem dX6_isBetter_86 : decode cX6_isBetter 86 = .ok (.invokevirtual 100, 3) := by decide +kernel
theorem dX6_isBetter_89 : decode cX6_isBetter 89 = .ok (.imul, 1) := by decide +kernel
theorem dX6_isBetter_90 : decode cX6_isBetter 90 = .ok (.aload_n 0, 1) := by decide +kernel
theorem dX6_isBetter_91 : decode cX6_isBetter 91 = .ok (.aload_n 0, 1) := by decide +kernel
theorem dX6_isBetter_92 : decode cX6_isBetter 92 = .ok (.getfield 40, 3) := by decide +kernel
theorem dX6_isBetter_95 : decode cX6_isBetter 95 = .ok (.iload_n 2, 1) := by decide +kernel
theorem dX6_isBetter_96 : decode cX6_isBetter 96 = .ok (.iaload, 1) := by decide +kernel
theorem dX6_isBetter_97 : decode cX6_isBetter 97 = .ok (.iload 5, 2) := by decide +kernel
theorem dX6_isBetter_99 : decode cX6_isBetter 99 = .ok (.iand, 1) := by decide +kernel
theorem dX6_isBetter_100 : decode cX6_isBetter 100 = .ok (.iload_n 3, 1) := by decide +kernel
theorem dX6_isBetter_101 : decode cX6_isBetter 101 = .ok (.invokevirtual 100, 3) := by decide +kernel
theorem dX6_isBetter_104 : decode cX6_isBetter 104 = .ok (.aload_n 0, 1) := by decide +kernel
theorem dX6_isBetter_105 : decode cX6_isBetter 105 = .ok (.aload_n 0, 1) := by decide +kernel
theorem dX6_isBetter_106 : decode cX6_isBetter 106 = .ok (.getfield 40, 3) := by decide +kernel
theorem dX6_isBetter_109 : decode cX6_isBetter 109 = .ok (.iload_n 1, 1) := by decide +kernel
theorem dX6_isBetter_110 : decode cX6_isBetter 110 = .ok (.iaload, 1) := by decide +kernel
theorem dX6_isBetter_111 : decode cX6_isBetter 111 = .ok (.iload 5, 2) := by decide +kernel
theorem dX6_isBetter_113 : decode cX6_isBetter 113 = .ok (.ior, 1) := by decide +kernel
theorem dX6_isBetter_114 : decode cX6_isBetter 114 = .ok (.iload_n 3, 1) := by decide +kernel
theorem dX6_isBetter_115 : decode cX6_isBetter 115 = .ok (.invokevirtual 100, 3) := by decide +kernel
theorem dX6_isBetter_118 : decode cX6_isBetter 118 = .ok (.imul, 1) := by decide +kernel
theorem dX6_isBetter_119 : decode cX6_isBetter 119 = .ok (.if_icmp .le 7, 3) := by decide +kernel
theorem dX6_isBetter_122 : decode cX6_isBetter 122 = .ok (.iconst 1, 1) := by decide +kernel
theorem dX6_isBetter_123 : decode cX6_isBetter 123 = .ok (.goto 4, 3) := by decide +kernel
theorem dX6_isBetter_126 : decode cX6_isBetter 126 = .ok (.iconst 0, 1) := by decide +kernel
theorem dX6_isBetter_127 : decode cX6_isBetter 127 = .ok (.ireturn, 1) := by decide +kernel
theorem dX6_agreeing_0 : decode cX6_agreeing 0 = .ok (.iconst (-1), 1) := by decide +kernel
theorem dX6_agreeing_1 : decode cX6_agreeing 1 = .ok (.istore 6, 2) := by decide +kernel
theorem dX6_agreeing_3 : decode cX6_agreeing 3 = .ok (.iconst 0, 1) := by decide +kernel
theorem dX6_agreeing_4 : decode cX6_agreeing 4 = .ok (.istore 7, 2) := by decide +kernel
theorem dX6_agreeing_6 : decode cX6_agreeing 6 = .ok (.iload 7, 2) := by decide +kernel
theorem dX6_agreeing_8 : decode cX6_agreeing 8 = .ok (.aload_n 0, 1) := by decide +kernel
theorem dX6_agreeing_9 : decode cX6_agreeing 9 = .ok (.getfield 78, 3) := by decide +kernel
theorem dX6_agreeing_12 : decode cX6_agreeing 12 = .ok (.if_icmp .ge 94, 3) := by decide +kernel
theorem dX6_agreeing_15 : decode cX6_agreeing 15 = .ok (.aload_n 0, 1) := by decide +kernel
theorem dX6_agreeing_16 : decode cX6_agreeing 16 = .ok (.getfield 34, 3) := by decide +kernel
theorem dX6_agreeing_19 : decode cX6_agreeing 19 = .ok (.iload 7, 2) := by decide +kernel
theorem dX6_agreeing_21 : decode cX6_agreeing 21 = .ok (.iaload, 1) := by decide +kernel
theorem dX6_agreeing_22 : decode cX6_agreeing 22 = .ok (.iload_n 2, 1) := by decide +kernel
theorem dX6_agreeing_23 : decode cX6_agreeing 23 = .ok (.if_icmp .ne 41, 3) := by decide +kernel
theorem dX6_agreeing_26 : decode cX6_agreeing 26 = .ok (.aload_n 0, 1) := by decide +kernel
theorem dX6_agreeing_27 : decode cX6_agreeing 27 = .ok (.iload 7, 2) := by decide +kernel
theorem dX6_agreeing_29 : decode cX6_agreeing 29 = .ok (.invokevirtual 118, 3) := by decide +kernel
theorem dX6_agreeing_32 : decode cX6_agreeing 32 = .ok (.ifCond .eq 32, 3) := by decide +kernel
theorem dX6_agreeing_35 : decode cX6_agreeing 35 = .ok (.aload_n 0, 1) := by decide +kernel
theorem dX6_agreeing_36 : decode cX6_agreeing 36 = .ok (.iload 7, 2) := by decide +kernel
theorem dX6_agreeing_38 : decode cX6_agreeing 38 = .ok (.invokevirtual 121, 3) := by decide +kernel
theorem dX6_agreeing_41 : decode cX6_agreeing 41 = .ok (.ifCond .ne 23, 3) := by decide +kernel
theorem dX6_agreeing_44 : decode cX6_agreeing 44 = .ok (.aload_n 0, 1) := by decide +kernel
theorem dX6_agreeing_45 : decode cX6_agreeing 45 = .ok (.iload 7, 2) := by decide +kernel
theorem dX6_agreeing_47 : decode cX6_agreeing 47 = .ok (.iload_n 2, 1) := by decide +kernel
theorem dX6_agreeing_48 : decode cX6_agreeing 48 = .ok (.iload_n 3, 1) := by decide +kernel
theorem dX6_agreeing_49 : decode cX6_agreeing 49 = .ok (.iload 4, 2) := by decide +kernel
theorem dX6_agreeing_51 : decode cX6_agreeing 51 = .ok (.iload 5, 2) := by decide +kernel
theorem dX6_agreeing_53 : decode cX6_agreeing 53 = .ok (.invokevirtual 131, 3) := by decide +kernel
theorem dX6_agreeing_56 : decode cX6_agreeing 56 = .ok (.iload_n 1, 1) := by decide +kernel
theorem dX6_agreeing_57 : decode cX6_agreeing 57 = .ok (.if_icmp .ne 7, 3) := by decide +kernel
theorem dX6_agreeing_60 : decode cX6_agreeing 60 = .ok (.iconst 1, 1) := by decide +kernel
theorem dX6_agreeing_61 : decode cX6_agreeing 61 = .ok (.goto 4, 3) := by decide +kernel
theorem dX6_agreeing_64 : decode cX6_agreeing 64 = .ok (.iconst 0, 1) := by decide +kernel
theorem dX6_agreeing_65 : decode cX6_agreeing 65 = .ok (.istore 8, 2) := by decide +kernel
theorem dX6_agreeing_67 : decode cX6_agreeing 67 = .ok (.iload 8, 2) := by decide +kernel
theorem dX6_agreeing_69 : decode cX6_agreeing 69 = .ok (.ifCond .eq 31, 3) := by decide +kernel
theorem dX6_agreeing_72 : decode cX6_agreeing 72 = .ok (.aload_n 0, 1) := by decide +kernel
theorem dX6_agreeing_73 : decode cX6_agreeing 73 = .ok (.iload 7, 2) := by decide +kernel
theorem dX6_agreeing_75 : decode cX6_agreeing 75 = .ok (.iload 6, 2) := by decide +kernel
theorem dX6_agreeing_77 : decode cX6_agreeing 77 = .ok (.iload_n 2, 1) := by decide +kernel
theorem dX6_agreeing_78 : decode cX6_agreeing 78 = .ok (.iload_n 1, 1) := by decide +kernel
theorem dX6_agreeing_79 : decode cX6_agreeing 79 = .ok (.iconst 2, 1) := by decide +kernel
theorem dX6_agreeing_80 : decode cX6_agreeing 80 = .ok (.if_icmp .ne 7, 3) := by decide +kernel
theorem dX6_agreeing_83 : decode cX6_agreeing 83 = .ok (.iconst (-1), 1) := by decide +kernel
theorem dX6_agreeing_84 : decode cX6_agreeing 84 = .ok (.goto 4, 3) := by decide +kernel
theorem dX6_agreeing_87 : decode cX6_agreeing 87 = .ok (.iload_n 3, 1) := by decide +kernel
theorem dX6_agreeing_88 : decode cX6_agreeing 88 = .ok (.iload 4, 2) := by decide +kernel
theorem dX6_agreeing_90 : decode cX6_agreeing 90 = .ok (.invokevirtual 135, 3) := by decide +kernel
theorem dX6_agreeing_93 : decode cX6_agreeing 93 = .ok (.ifCond .eq 7, 3) := by decide +kernel
theorem dX6_agreeing_96 : decode cX6_agreeing 96 = .ok (.iload 7, 2) := by decide +kernel
theorem dX6_agreeing_98 : decode cX6_agreeing 98 = .ok (.istore 6, 2) := by decide +kernel
theorem dX6_agreeing_100 : decode cX6_agreeing 100 = .ok (.iinc 7 1, 3) := by decide +kernel
theorem dX6_agreeing_103 : decode cX6_agreeing 103 = .ok (.goto (-97), 3) := by decide +kernel
theorem dX6_agreeing_106 : decode cX6_agreeing 106 = .ok (.iload 6, 2) := by decide +kernel
theorem dX6_agreeing_108 : decode cX6_agreeing 108 = .ok (.ireturn, 1) := by decide +kernel
theorem dX6_reason_0 : decode cX6_reason 0 = .ok (.aload_n 0, 1) := by decide +kernel
theorem dX6_reason_1 : decode cX6_reason 1 = .ok (.iconst 1, 1) := by decide +kernel
theorem dX6_reason_2 : decode cX6_reason 2 = .ok (.putfield 139, 3) := by decide +kernel
theorem dX6_reason_5 : decode cX6_reason 5 = .ok (.aload_n 0, 1) := by decide +kernel
theorem dX6_reason_6 : decode cX6_reason 6 = .ok (.iload_n 1, 1) := by decide +kernel
theorem dX6_reason_7 : decode cX6_reason 7 = .ok (.iload_n 2, 1) := by decide +kernel
theorem dX6_reason_8 : decode cX6_reason 8 = .ok (.iload 6, 2) := by decide +kernel
theorem dX6_reason_10 : decode cX6_reason 10 = .ok (.invokevirtual 142, 3) := by decide +kernel
theorem dX6_reason_13 : decode cX6_reason 13 = .ok (.istore 7, 2) := by decide +kernel
theorem dX6_reason_15 : decode cX6_reason 15 = .ok (.iload 7, 2) := by decide +kernel
theorem dX6_reason_17 : decode cX6_reason 17 = .ok (.ifCond .lt 6, 3) := by decide +kernel
theorem dX6_reason_20 : decode cX6_reason 20 = .ok (.iload 7, 2) := by decide +kernel
theorem dX6_reason_22 : decode cX6_reason 22 = .ok (.ireturn, 1) := by decide +kernel
theorem dX6_reason_23 : decode cX6_reason 23 = .ok (.aload_n 0, 1) := by decide +kernel
theorem dX6_reason_24 : decode cX6_reason 24 = .ok (.iconst 2, 1) := by decide +kernel
theorem dX6_reason_25 : decode cX6_reason 25 = .ok (.putfield 139, 3) := by decide +kernel
theorem dX6_reason_28 : decode cX6_reason 28 = .ok (.aload_n 0, 1) := by decide +kernel
theorem dX6_reason_29 : decode cX6_reason 29 = .ok (.iload_n 2, 1) := by decide +kernel
theorem dX6_reason_30 : decode cX6_reason 30 = .ok (.iload_n 3, 1) := by decide +kernel
theorem dX6_reason_31 : decode cX6_reason 31 = .ok (.iload 5, 2) := by decide +kernel
theorem dX6_reason_33 : decode cX6_reason 33 = .ok (.invokevirtual 146, 3) := by decide +kernel
theorem dX6_reason_36 : decode cX6_reason 36 = .ok (.istore 7, 2) := by decide +kernel
theorem dX6_reason_38 : decode cX6_reason 38 = .ok (.iload 7, 2) := by decide +kernel
theorem dX6_reason_40 : decode cX6_reason 40 = .ok (.ifCond .lt 6, 3) := by decide +kernel
theorem dX6_reason_43 : decode cX6_reason 43 = .ok (.iload 7, 2) := by decide +kernel
theorem dX6_reason_45 : decode cX6_reason 45 = .ok (.ireturn, 1) := by decide +kernel
theorem dX6_reason_46 : decode cX6_reason 46 = .ok (.aload_n 0, 1) := by decide +kernel
theorem dX6_reason_47 : decode cX6_reason 47 = .ok (.iconst 3, 1) := by decide +kernel
theorem dX6_reason_48 : decode cX6_reason 48 = .ok (.putfield 139, 3) := by decide +kernel
theorem dX6_reason_51 : decode cX6_reason 51 = .ok (.aload_n 0, 1) := by decide +kernel
theorem dX6_reason_52 : decode cX6_reason 52 = .ok (.iconst 1, 1) := by decide +kernel
theorem dX6_reason_53 : decode cX6_reason 53 = .ok (.iload_n 2, 1) := by decide +kernel
theorem dX6_reason_54 : decode cX6_reason 54 = .ok (.iload_n 3, 1) := by decide +kernel
theorem dX6_reason_55 : decode cX6_reason 55 = .ok (.iload 4, 2) := by decide +kernel
theorem dX6_reason_57 : decode cX6_reason 57 = .ok (.iload 6, 2) := by decide +kernel
theorem dX6_reason_59 : decode cX6_reason 59 = .ok (.invokevirtual 149, 3) := by decide +kernel
theorem dX6_reason_62 : decode cX6_reason 62 = .ok (.istore 7, 2) := by decide +kernel
theorem dX6_reason_64 : decode cX6_reason 64 = .ok (.iload 7, 2) := by decide +kernel
theorem dX6_reason_66 : decode cX6_reason 66 = .ok (.ifCond .lt 6, 3) := by decide +kernel
theorem dX6_reason_69 : decode cX6_reason 69 = .ok (.iload 7, 2) := by decide +kernel
theorem dX6_reason_71 : decode cX6_reason 71 = .ok (.ireturn, 1) := by decide +kernel
theorem dX6_reason_72 : decode cX6_reason 72 = .ok (.aload_n 0, 1) := by decide +kernel
theorem dX6_reason_73 : decode cX6_reason 73 = .ok (.iconst 4, 1) := by decide +kernel
theorem dX6_reason_74 : decode cX6_reason 74 = .ok (.putfield 139, 3) := by decide +kernel
theorem dX6_reason_77 : decode cX6_reason 77 = .ok (.aload_n 0, 1) := by decide +kernel
theorem dX6_reason_78 : decode cX6_reason 78 = .ok (.iconst 2, 1) := by decide +kernel
theorem dX6_reason_79 : decode cX6_reason 79 = .ok (.iload_n 2, 1) := by decide +kernel
theorem dX6_reason_80 : decode cX6_reason 80 = .ok (.iload_n 3, 1) := by decide +kernel
theorem dX6_reason_81 : decode cX6_reason 81 = .ok (.iload 4, 2) := by decide +kernel
theorem dX6_reason_83 : decode cX6_reason 83 = .ok (.iload 6, 2) := by decide +kernel
theorem dX6_reason_85 : decode cX6_reason 85 = .ok (.invokevirtual 149, 3) := by decide +kernel
theorem dX6_reason_88 : decode cX6_reason 88 = .ok (.istore 7, 2) := by decide +kernel
theorem dX6_reason_90 : decode cX6_reason 90 = .ok (.aload_n 0, 1) := by decide +kernel
theorem dX6_reason_91 : decode cX6_reason 91 = .ok (.iload 7, 2) := by decide +kernel
theorem dX6_reason_93 : decode cX6_reason 93 = .ok (.ifCond .lt 7, 3) := by decide +kernel
theorem dX6_reason_96 : decode cX6_reason 96 = .ok (.iconst 4, 1) := by decide +kernel
theorem dX6_reason_97 : decode cX6_reason 97 = .ok (.goto 4, 3) := by decide +kernel
theorem dX6_reason_100 : decode cX6_reason 100 = .ok (.iconst 0, 1) := by decide +kernel
theorem dX6_reason_101 : decode cX6_reason 101 = .ok (.putfield 139, 3) := by decide +kernel
theorem dX6_reason_104 : decode cX6_reason 104 = .ok (.iload 7, 2) := by decide +kernel
theorem dX6_reason_106 : decode cX6_reason 106 = .ok (.ireturn, 1) := by decide +kernel
theorem dX6_isRange_0 : decode cX6_isRange 0 = .ok (.iload_n 1, 1) := by decide +kernel
theorem dX6_isRange_1 : decode cX6_isRange 1 = .ok (.iconst 0, 1) := by decide +kernel
theorem dX6_isRange_2 : decode cX6_isRange 2 = .ok (.sipush 999, 3) := by decide +kernel
theorem dX6_isRange_5 : decode cX6_isRange 5 = .ok (.invokestatic 74, 3) := by decide +kernel
theorem dX6_isRange_8 : decode cX6_isRange 8 = .ok (.ifCond .eq 43, 3) := by decide +kernel
theorem dX6_isRange_11 : decode cX6_isRange 11 = .ok (.iload_n 2, 1) := by decide +kernel
theorem dX6_isRange_12 : decode cX6_isRange 12 = .ok (.iconst (-1), 1) := by decide +kernel
theorem dX6_isRange_13 : decode cX6_isRange 13 = .ok (.ldc 84, 2) := by decide +kernel
theorem dX6_isRange_15 : decode cX6_isRange 15 = .ok (.invokestatic 74, 3) := by decide +kernel
theorem dX6_isRange_18 : decode cX6_isRange 18 = .ok (.ifCond .eq 33, 3) := by decide +kernel
theorem dX6_isRange_21 : decode cX6_isRange 21 = .ok (.iload_n 3, 1) := by decide +kernel
theorem dX6_isRange_22 : decode cX6_isRange 22 = .ok (.aload_n 0, 1) := by decide +kernel
theorem dX6_isRange_23 : decode cX6_isRange 23 = .ok (.getfield 78, 3) := by decide +kernel
theorem dX6_isRange_26 : decode cX6_isRange 26 = .ok (.ifCond .ne 7, 3) := by decide +kernel
theorem dX6_isRange_29 : decode cX6_isRange 29 = .ok (.iconst 0, 1) := by decide +kernel
theorem dX6_isRange_30 : decode cX6_isRange 30 = .ok (.goto 14, 3) := by decide +kernel
theorem dX6_isRange_33 : decode cX6_isRange 33 = .ok (.aload_n 0, 1) := by decide +kernel
theorem dX6_isRange_34 : decode cX6_isRange 34 = .ok (.getfield 43, 3) := by decide +kernel
theorem dX6_isRange_37 : decode cX6_isRange 37 = .ok (.aload_n 0, 1) := by decide +kernel
theorem dX6_isRange_38 : decode cX6_isRange 38 = .ok (.getfield 78, 3) := by decide +kernel
theorem dX6_isRange_41 : decode cX6_isRange 41 = .ok (.iconst 1, 1) := by decide +kernel
theorem dX6_isRange_42 : decode cX6_isRange 42 = .ok (.isub, 1) := by decide +kernel
theorem dX6_isRange_43 : decode cX6_isRange 43 = .ok (.iaload, 1) := by decide +kernel
theorem dX6_isRange_44 : decode cX6_isRange 44 = .ok (.if_icmp .lt 7, 3) := by decide +kernel
theorem dX6_isRange_47 : decode cX6_isRange 47 = .ok (.iconst 1, 1) := by decide +kernel
theorem dX6_isRange_48 : decode cX6_isRange 48 = .ok (.goto 4, 3) := by decide +kernel
theorem dX6_isRange_51 : decode cX6_isRange 51 = .ok (.iconst 0, 1) := by decide +kernel
theorem dX6_isRange_52 : decode cX6_isRange 52 = .ok (.ireturn, 1) := by decide +kernel
theorem dX6_isKnown_0 : decode cX6_isKnown 0 = .ok (.iload_n 0, 1) := by decide +kernel
theorem dX6_isKnown_1 : decode cX6_isKnown 1 = .ok (.invokestatic 86, 3) := by decide +kernel
theorem dX6_isKnown_4 : decode cX6_isKnown 4 = .ok (.ifCond .eq 17, 3) := by decide +kernel
theorem dX6_isKnown_7 : decode cX6_isKnown 7 = .ok (.iload_n 1, 1) := by decide +kernel
theorem dX6_isKnown_8 : decode cX6_isKnown 8 = .ok (.iconst (-1), 1) := by decide +kernel
theorem dX6_isKnown_9 : decode cX6_isKnown 9 = .ok (.bipush 7, 2) := by decide +kernel
theorem dX6_isKnown_11 : decode cX6_isKnown 11 = .ok (.invokestatic 74, 3) := by decide +kernel
theorem dX6_isKnown_14 : decode cX6_isKnown 14 = .ok (.ifCond .eq 7, 3) := by decide +kernel
theorem dX6_isKnown_17 : decode cX6_isKnown 17 = .ok (.iconst 1, 1) := by decide +kernel
theorem dX6_isKnown_18 : decode cX6_isKnown 18 = .ok (.goto 4, 3) := by decide +kernel
theorem dX6_isKnown_21 : decode cX6_isKnown 21 = .ok (.iconst 0, 1) := by decide +kernel
theorem dX6_isKnown_22 : decode cX6_isKnown 22 = .ok (.ireturn, 1) := by decide +kernel
theorem dX6_call_0 : decode cX6_call 0 = .ok (.aload_n 0, 1) := by decide +kernel
theorem dX6_call_1 : decode cX6_call 1 = .ok (.iload_n 2, 1) := by decide +kernel
theorem dX6_call_2 : decode cX6_call 2 = .ok (.iload 5, 2) := by decide +kernel
theorem dX6_call_4 : decode cX6_call 4 = .ok (.invokestatic 152, 3) := by decide +kernel
theorem dX6_call_7 : decode cX6_call 7 = .ok (.ifCond .ne 7, 3) := by decide +kernel
theorem dX6_call_10 : decode cX6_call 10 = .ok (.iconst 1, 1) := by decide +kernel
theorem dX6_call_11 : decode cX6_call 11 = .ok (.goto 4, 3) := by decide +kernel
theorem dX6_call_14 : decode cX6_call 14 = .ok (.iconst 0, 1) := by decide +kernel
theorem dX6_call_15 : decode cX6_call 15 = .ok (.aload_n 0, 1) := by decide +kernel
theorem dX6_call_16 : decode cX6_call 16 = .ok (.iload_n 1, 1) := by decide +kernel
theorem dX6_call_17 : decode cX6_call 17 = .ok (.iload_n 3, 1) := by decide +kernel
theorem dX6_call_18 : decode cX6_call 18 = .ok (.iload 6, 2) := by decide +kernel
theorem dX6_call_20 : decode cX6_call 20 = .ok (.invokevirtual 156, 3) := by decide +kernel
theorem dX6_call_23 : decode cX6_call 23 = .ok (.ifCond .ne 7, 3) := by decide +kernel
theorem dX6_call_26 : decode cX6_call 26 = .ok (.iconst 1, 1) := by decide +kernel
theorem dX6_call_27 : decode cX6_call 27 = .ok (.goto 4, 3) := by decide +kernel
theorem dX6_call_30 : decode cX6_call 30 = .ok (.iconst 0, 1) := by decide +kernel
theorem dX6_call_31 : decode cX6_call 31 = .ok (.aload_n 0, 1) := by decide +kernel
theorem dX6_call_32 : decode cX6_call 32 = .ok (.getfield 78, 3) := by decide +kernel
theorem dX6_call_35 : decode cX6_call 35 = .ok (.bipush 120, 2) := by decide +kernel
theorem dX6_call_37 : decode cX6_call 37 = .ok (.if_icmp .ne 7, 3) := by decide +kernel
theorem dX6_call_40 : decode cX6_call 40 = .ok (.iconst 1, 1) := by decide +kernel
theorem dX6_call_41 : decode cX6_call 41 = .ok (.goto 4, 3) := by decide +kernel
theorem dX6_call_44 : decode cX6_call 44 = .ok (.iconst 0, 1) := by decide +kernel
theorem dX6_call_45 : decode cX6_call 45 = .ok (.invokevirtual 90, 3) := by decide +kernel
theorem dX6_call_48 : decode cX6_call 48 = .ok (.ifCond .eq 5, 3) := by decide +kernel
theorem dX6_call_51 : decode cX6_call 51 = .ok (.iconst 0, 1) := by decide +kernel
theorem dX6_call_52 : decode cX6_call 52 = .ok (.ireturn, 1) := by decide +kernel
theorem dX6_call_53 : decode cX6_call 53 = .ok (.aload_n 0, 1) := by decide +kernel
theorem dX6_call_54 : decode cX6_call 54 = .ok (.iload_n 1, 1) := by decide +kernel
theorem dX6_call_55 : decode cX6_call 55 = .ok (.iload_n 2, 1) := by decide +kernel
theorem dX6_call_56 : decode cX6_call 56 = .ok (.iload_n 3, 1) := by decide +kernel
theorem dX6_call_57 : decode cX6_call 57 = .ok (.iload 4, 2) := by decide +kernel
theorem dX6_call_59 : decode cX6_call 59 = .ok (.iload 5, 2) := by decide +kernel
theorem dX6_call_61 : decode cX6_call 61 = .ok (.iload 6, 2) := by decide +kernel
theorem dX6_call_63 : decode cX6_call 63 = .ok (.invokevirtual 159, 3) := by decide +kernel
theorem dX6_call_66 : decode cX6_call 66 = .ok (.istore 7, 2) := by decide +kernel
theorem dX6_call_68 : decode cX6_call 68 = .ok (.aload_n 0, 1) := by decide +kernel
theorem dX6_call_69 : decode cX6_call 69 = .ok (.iconst 0, 1) := by decide +kernel
theorem dX6_call_70 : decode cX6_call 70 = .ok (.iconst 0, 1) := by decide +kernel
theorem dX6_call_71 : decode cX6_call 71 = .ok (.iload 7, 2) := by decide +kernel
theorem dX6_call_73 : decode cX6_call 73 = .ok (.ifCond .ge 16, 3) := by decide +kernel
theorem dX6_call_76 : decode cX6_call 76 = .ok (.aload_n 0, 1) := by decide +kernel
theorem dX6_call_77 : decode cX6_call 77 = .ok (.getfield 81, 3) := by decide +kernel
theorem dX6_call_80 : decode cX6_call 80 = .ok (.bipush 60, 2) := by decide +kernel
theorem dX6_call_82 : decode cX6_call 82 = .ok (.if_icmp .ne 7, 3) := by decide +kernel
theorem dX6_call_85 : decode cX6_call 85 = .ok (.iconst 1, 1) := by decide +kernel
theorem dX6_call_86 : decode cX6_call 86 = .ok (.goto 4, 3) := by decide +kernel
theorem dX6_call_89 : decode cX6_call 89 = .ok (.iconst 0, 1) := by decide +kernel
theorem dX6_call_90 : decode cX6_call 90 = .ok (.invokevirtual 90, 3) := by decide +kernel
theorem dX6_call_93 : decode cX6_call 93 = .ok (.ifCond .eq 5, 3) := by decide +kernel
theorem dX6_call_96 : decode cX6_call 96 = .ok (.iconst 0, 1) := by decide +kernel
theorem dX6_call_97 : decode cX6_call 97 = .ok (.ireturn, 1) := by decide +kernel
theorem dX6_call_98 : decode cX6_call 98 = .ok (.aload_n 0, 1) := by decide +kernel
theorem dX6_call_99 : decode cX6_call 99 = .ok (.getfield 78, 3) := by decide +kernel
theorem dX6_call_102 : decode cX6_call 102 = .ok (.istore 8, 2) := by decide +kernel
theorem dX6_call_104 : decode cX6_call 104 = .ok (.aload_n 0, 1) := by decide +kernel
theorem dX6_call_105 : decode cX6_call 105 = .ok (.getfield 31, 3) := by decide +kernel
theorem dX6_call_108 : decode cX6_call 108 = .ok (.iload 8, 2) := by decide +kernel
theorem dX6_call_110 : decode cX6_call 110 = .ok (.iload_n 1, 1) := by decide +kernel
theorem dX6_call_111 : decode cX6_call 111 = .ok (.iastore, 1) := by decide +kernel
theorem dX6_call_112 : decode cX6_call 112 = .ok (.aload_n 0, 1) := by decide +kernel
theorem dX6_call_113 : decode cX6_call 113 = .ok (.getfield 34, 3) := by decide +kernel
theorem dX6_call_116 : decode cX6_call 116 = .ok (.iload 8, 2) := by decide +kernel
theorem dX6_call_118 : decode cX6_call 118 = .ok (.iload_n 2, 1) := by decide +kernel
theorem dX6_call_119 : decode cX6_call 119 = .ok (.iastore, 1) := by decide +kernel
theorem dX6_call_120 : decode cX6_call 120 = .ok (.aload_n 0, 1) := by decide +kernel
theorem dX6_call_121 : decode cX6_call 121 = .ok (.getfield 37, 3) := by decide +kernel
theorem dX6_call_124 : decode cX6_call 124 = .ok (.iload 8, 2) := by decide +kernel
theorem dX6_call_126 : decode cX6_call 126 = .ok (.iload_n 3, 1) := by decide +kernel
theorem dX6_call_127 : decode cX6_call 127 = .ok (.iastore, 1) := by decide +kernel
theorem dX6_call_128 : decode cX6_call 128 = .ok (.aload_n 0, 1) := by decide +kernel
theorem dX6_call_129 : decode cX6_call 129 = .ok (.getfield 40, 3) := by decide +kernel
theorem dX6_call_132 : decode cX6_call 132 = .ok (.iload 8, 2) := by decide +kernel
theorem dX6_call_134 : decode cX6_call 134 = .ok (.iload 4, 2) := by decide +kernel
theorem dX6_call_136 : decode cX6_call 136 = .ok (.iastore, 1) := by decide +kernel
theorem dX6_call_137 : decode cX6_call 137 = .ok (.aload_n 0, 1) := by decide +kernel
theorem dX6_call_138 : decode cX6_call 138 = .ok (.getfield 43, 3) := by decide +kernel
theorem dX6_call_141 : decode cX6_call 141 = .ok (.iload 8, 2) := by decide +kernel
theorem dX6_call_143 : decode cX6_call 143 = .ok (.iload 6, 2) := by decide +kernel
theorem dX6_call_145 : decode cX6_call 145 = .ok (.iastore, 1) := by decide +kernel
theorem dX6_call_146 : decode cX6_call 146 = .ok (.aload_n 0, 1) := by decide +kernel
theorem dX6_call_147 : decode cX6_call 147 = .ok (.getfield 52, 3) := by decide +kernel
theorem dX6_call_150 : decode cX6_call 150 = .ok (.iload 8, 2) := by decide +kernel
theorem dX6_call_152 : decode cX6_call 152 = .ok (.iconst 0, 1) := by decide +kernel
theorem dX6_call_153 : decode cX6_call 153 = .ok (.iastore, 1) := by decide +kernel
theorem dX6_call_154 : decode cX6_call 154 = .ok (.aload_n 0, 1) := by decide +kernel
theorem dX6_call_155 : decode cX6_call 155 = .ok (.getfield 49, 3) := by decide +kernel
theorem dX6_call_158 : decode cX6_call 158 = .ok (.iload 8, 2) := by decide +kernel
theorem dX6_call_160 : decode cX6_call 160 = .ok (.iload 7, 2) := by decide +kernel
theorem dX6_call_162 : decode cX6_call 162 = .ok (.iastore, 1) := by decide +kernel
theorem dX6_call_163 : decode cX6_call 163 = .ok (.aload_n 0, 1) := by decide +kernel
theorem dX6_call_164 : decode cX6_call 164 = .ok (.getfield 55, 3) := by decide +kernel
theorem dX6_call_167 : decode cX6_call 167 = .ok (.iload 8, 2) := by decide +kernel
theorem dX6_call_169 : decode cX6_call 169 = .ok (.aload_n 0, 1) := by decide +kernel
theorem dX6_call_170 : decode cX6_call 170 = .ok (.getfield 139, 3) := by decide +kernel
theorem dX6_call_173 : decode cX6_call 173 = .ok (.iastore, 1) := by decide +kernel
theorem dX6_call_174 : decode cX6_call 174 = .ok (.aload_n 0, 1) := by decide +kernel
theorem dX6_call_175 : decode cX6_call 175 = .ok (.getfield 46, 3) := by decide +kernel
theorem dX6_call_178 : decode cX6_call 178 = .ok (.iload 8, 2) := by decide +kernel
theorem dX6_call_180 : decode cX6_call 180 = .ok (.iload 7, 2) := by decide +kernel
theorem dX6_call_182 : decode cX6_call 182 = .ok (.ifCond .ge 10, 3) := by decide +kernel
theorem dX6_call_185 : decode cX6_call 185 = .ok (.aload_n 0, 1) := by decide +kernel
theorem dX6_call_186 : decode cX6_call 186 = .ok (.invokevirtual 163, 3) := by decide +kernel
theorem dX6_call_189 : decode cX6_call 189 = .ok (.goto 10, 3) := by decide +kernel
theorem dX6_call_192 : decode cX6_call 192 = .ok (.aload_n 0, 1) := by decide +kernel
theorem dX6_call_193 : decode cX6_call 193 = .ok (.getfield 46, 3) := by decide +kernel
theorem dX6_call_196 : decode cX6_call 196 = .ok (.iload 7, 2) := by decide +kernel
theorem dX6_call_198 : decode cX6_call 198 = .ok (.iaload, 1) := by decide +kernel
theorem dX6_call_199 : decode cX6_call 199 = .ok (.iastore, 1) := by decide +kernel
theorem dX6_call_200 : decode cX6_call 200 = .ok (.aload_n 0, 1) := by decide +kernel
theorem dX6_call_201 : decode cX6_call 201 = .ok (.dup, 1) := by decide +kernel
theorem dX6_call_202 : decode cX6_call 202 = .ok (.getfield 78, 3) := by decide +kernel
theorem dX6_call_205 : decode cX6_call 205 = .ok (.iconst 1, 1) := by decide +kernel
theorem dX6_call_206 : decode cX6_call 206 = .ok (.iadd, 1) := by decide +kernel
theorem dX6_call_207 : decode cX6_call 207 = .ok (.putfield 78, 3) := by decide +kernel
theorem dX6_call_210 : decode cX6_call 210 = .ok (.iload 8, 2) := by decide +kernel
theorem dX6_call_212 : decode cX6_call 212 = .ok (.ireturn, 1) := by decide +kernel
theorem dX6_newEvent_0 : decode cX6_newEvent 0 = .ok (.aload_n 0, 1) := by decide +kernel
theorem dX6_newEvent_1 : decode cX6_newEvent 1 = .ok (.getfield 58, 3) := by decide +kernel
theorem dX6_newEvent_4 : decode cX6_newEvent 4 = .ok (.aload_n 0, 1) := by decide +kernel
theorem dX6_newEvent_5 : decode cX6_newEvent 5 = .ok (.getfield 81, 3) := by decide +kernel
theorem dX6_newEvent_8 : decode cX6_newEvent 8 = .ok (.iconst 0, 1) := by decide +kernel
theorem dX6_newEvent_9 : decode cX6_newEvent 9 = .ok (.iastore, 1) := by decide +kernel
theorem dX6_newEvent_10 : decode cX6_newEvent 10 = .ok (.aload_n 0, 1) := by decide +kernel
theorem dX6_newEvent_11 : decode cX6_newEvent 11 = .ok (.getfield 61, 3) := by decide +kernel
theorem dX6_newEvent_14 : decode cX6_newEvent 14 = .ok (.aload_n 0, 1) := by decide +kernel
theorem dX6_newEvent_15 : decode cX6_newEvent 15 = .ok (.getfield 81, 3) := by decide +kernel
theorem dX6_newEvent_18 : decode cX6_newEvent 18 = .ok (.iconst (-1), 1) := by decide +kernel
theorem dX6_newEvent_19 : decode cX6_newEvent 19 = .ok (.iastore, 1) := by decide +kernel
theorem dX6_newEvent_20 : decode cX6_newEvent 20 = .ok (.aload_n 0, 1) := by decide +kernel
theorem dX6_newEvent_21 : decode cX6_newEvent 21 = .ok (.dup, 1) := by decide +kernel
theorem dX6_newEvent_22 : decode cX6_newEvent 22 = .ok (.getfield 81, 3) := by decide +kernel
theorem dX6_newEvent_25 : decode cX6_newEvent 25 = .ok (.iconst 1, 1) := by decide +kernel
theorem dX6_newEvent_26 : decode cX6_newEvent 26 = .ok (.iadd, 1) := by decide +kernel
theorem dX6_newEvent_27 : decode cX6_newEvent 27 = .ok (.putfield 81, 3) := by decide +kernel
theorem dX6_newEvent_30 : decode cX6_newEvent 30 = .ok (.aload_n 0, 1) := by decide +kernel
theorem dX6_newEvent_31 : decode cX6_newEvent 31 = .ok (.getfield 81, 3) := by decide +kernel
theorem dX6_newEvent_34 : decode cX6_newEvent 34 = .ok (.iconst 1, 1) := by decide +kernel
theorem dX6_newEvent_35 : decode cX6_newEvent 35 = .ok (.isub, 1) := by decide +kernel
theorem dX6_newEvent_36 : decode cX6_newEvent 36 = .ok (.ireturn, 1) := by decide +kernel
theorem dX6_reasonFor_0 : decode cX6_reasonFor 0 = .ok (.aload_n 0, 1) := by decide +kernel
theorem dX6_reasonFor_1 : decode cX6_reasonFor 1 = .ok (.iload_n 2, 1) := by decide +kernel
theorem dX6_reasonFor_2 : decode cX6_reasonFor 2 = .ok (.iload 5, 2) := by decide +kernel
theorem dX6_reasonFor_4 : decode cX6_reasonFor 4 = .ok (.invokestatic 152, 3) := by decide +kernel
theorem dX6_reasonFor_7 : decode cX6_reasonFor 7 = .ok (.ifCond .ne 7, 3) := by decide +kernel
theorem dX6_reasonFor_10 : decode cX6_reasonFor 10 = .ok (.iconst 1, 1) := by decide +kernel
theorem dX6_reasonFor_11 : decode cX6_reasonFor 11 = .ok (.goto 4, 3) := by decide +kernel
theorem dX6_reasonFor_14 : decode cX6_reasonFor 14 = .ok (.iconst 0, 1) := by decide +kernel
theorem dX6_reasonFor_15 : decode cX6_reasonFor 15 = .ok (.aload_n 0, 1) := by decide +kernel
theorem dX6_reasonFor_16 : decode cX6_reasonFor 16 = .ok (.iload_n 1, 1) := by decide +kernel
theorem dX6_reasonFor_17 : decode cX6_reasonFor 17 = .ok (.iload_n 3, 1) := by decide +kernel
theorem dX6_reasonFor_18 : decode cX6_reasonFor 18 = .ok (.iload 6, 2) := by decide +kernel
theorem dX6_reasonFor_20 : decode cX6_reasonFor 20 = .ok (.invokevirtual 156, 3) := by decide +kernel
theorem dX6_reasonFor_23 : decode cX6_reasonFor 23 = .ok (.ifCond .ne 7, 3) := by decide +kernel
theorem dX6_reasonFor_26 : decode cX6_reasonFor 26 = .ok (.iconst 1, 1) := by decide +kernel
theorem dX6_reasonFor_27 : decode cX6_reasonFor 27 = .ok (.goto 4, 3) := by decide +kernel
theorem dX6_reasonFor_30 : decode cX6_reasonFor 30 = .ok (.iconst 0, 1) := by decide +kernel
theorem dX6_reasonFor_31 : decode cX6_reasonFor 31 = .ok (.iconst 0, 1) := by decide +kernel
theorem dX6_reasonFor_32 : decode cX6_reasonFor 32 = .ok (.invokevirtual 90, 3) := by decide +kernel
theorem dX6_reasonFor_35 : decode cX6_reasonFor 35 = .ok (.ifCond .eq 5, 3) := by decide +kernel
theorem dX6_reasonFor_38 : decode cX6_reasonFor 38 = .ok (.iconst 0, 1) := by decide +kernel
theorem dX6_reasonFor_39 : decode cX6_reasonFor 39 = .ok (.ireturn, 1) := by decide +kernel
theorem dX6_reasonFor_40 : decode cX6_reasonFor 40 = .ok (.aload_n 0, 1) := by decide +kernel
theorem dX6_reasonFor_41 : decode cX6_reasonFor 41 = .ok (.iload_n 1, 1) := by decide +kernel
