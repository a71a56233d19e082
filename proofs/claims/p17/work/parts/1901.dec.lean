theorem dX4_watch_130 : decode cX4_watch 130 = .ok (.iload_n 1, 1) := by decide +kernel
theorem dX4_watch_131 : decode cX4_watch 131 = .ok (.iload_n 3, 1) := by decide +kernel
theorem dX4_watch_132 : decode cX4_watch 132 = .ok (.iload 4, 2) := by decide +kernel
theorem dX4_watch_134 : decode cX4_watch 134 = .ok (.invokestatic 148, 3) := by decide +kernel
theorem dX4_watch_137 : decode cX4_watch 137 = .ok (.iastore, 1) := by decide +kernel
theorem dX4_watch_138 : decode cX4_watch 138 = .ok (.return_, 1) := by decide +kernel
theorem dX4_state_0 : decode cX4_state 0 = .ok (.iload_n 1, 1) := by decide +kernel
theorem dX4_state_1 : decode cX4_state 1 = .ok (.aload_n 0, 1) := by decide +kernel
theorem dX4_state_2 : decode cX4_state 2 = .ok (.getfield 33, 3) := by decide +kernel
theorem dX4_state_5 : decode cX4_state 5 = .ok (.getfield 94, 3) := by decide +kernel
theorem dX4_state_8 : decode cX4_state 8 = .ok (.invokestatic 37, 3) := by decide +kernel
theorem dX4_state_11 : decode cX4_state 11 = .ok (.invokestatic 41, 3) := by decide +kernel
theorem dX4_state_14 : decode cX4_state 14 = .ok (.iload_n 2, 1) := by decide +kernel
theorem dX4_state_15 : decode cX4_state 15 = .ok (.ifCond .lt 12, 3) := by decide +kernel
theorem dX4_state_18 : decode cX4_state 18 = .ok (.iload_n 2, 1) := by decide +kernel
theorem dX4_state_19 : decode cX4_state 19 = .ok (.iconst 2, 1) := by decide +kernel
theorem dX4_state_20 : decode cX4_state 20 = .ok (.if_icmp .gt 7, 3) := by decide +kernel
theorem dX4_state_23 : decode cX4_state 23 = .ok (.iconst 1, 1) := by decide +kernel
theorem dX4_state_24 : decode cX4_state 24 = .ok (.goto 4, 3) := by decide +kernel
theorem dX4_state_27 : decode cX4_state 27 = .ok (.iconst 0, 1) := by decide +kernel
theorem dX4_state_28 : decode cX4_state 28 = .ok (.invokestatic 45, 3) := by decide +kernel
theorem dX4_state_31 : decode cX4_state 31 = .ok (.aload_n 0, 1) := by decide +kernel
theorem dX4_state_32 : decode cX4_state 32 = .ok (.getfield 33, 3) := by decide +kernel
theorem dX4_state_35 : decode cX4_state 35 = .ok (.getfield 121, 3) := by decide +kernel
theorem dX4_state_38 : decode cX4_state 38 = .ok (.iload_n 1, 1) := by decide +kernel
theorem dX4_state_39 : decode cX4_state 39 = .ok (.iaload, 1) := by decide +kernel
theorem dX4_state_40 : decode cX4_state 40 = .ok (.iload_n 2, 1) := by decide +kernel
theorem dX4_state_41 : decode cX4_state 41 = .ok (.if_icmp .eq 20, 3) := by decide +kernel
theorem dX4_state_44 : decode cX4_state 44 = .ok (.aload_n 0, 1) := by decide +kernel
theorem dX4_state_45 : decode cX4_state 45 = .ok (.getfield 33, 3) := by decide +kernel
theorem dX4_state_48 : decode cX4_state 48 = .ok (.getfield 121, 3) := by decide +kernel
theorem dX4_state_51 : decode cX4_state 51 = .ok (.iload_n 1, 1) := by decide +kernel
theorem dX4_state_52 : decode cX4_state 52 = .ok (.iaload, 1) := by decide +kernel
theorem dX4_state_53 : decode cX4_state 53 = .ok (.iconst 3, 1) := by decide +kernel
theorem dX4_state_54 : decode cX4_state 54 = .ok (.if_icmp .eq 7, 3) := by decide +kernel
theorem dX4_state_57 : decode cX4_state 57 = .ok (.iconst 1, 1) := by decide +kernel
theorem dX4_state_58 : decode cX4_state 58 = .ok (.goto 4, 3) := by decide +kernel
theorem dX4_state_61 : decode cX4_state 61 = .ok (.iconst 0, 1) := by decide +kernel
theorem dX4_state_62 : decode cX4_state 62 = .ok (.invokestatic 108, 3) := by decide +kernel
theorem dX4_state_65 : decode cX4_state 65 = .ok (.aload_n 0, 1) := by decide +kernel
theorem dX4_state_66 : decode cX4_state 66 = .ok (.getfield 33, 3) := by decide +kernel
theorem dX4_state_69 : decode cX4_state 69 = .ok (.getfield 121, 3) := by decide +kernel
theorem dX4_state_72 : decode cX4_state 72 = .ok (.iload_n 1, 1) := by decide +kernel
theorem dX4_state_73 : decode cX4_state 73 = .ok (.iload_n 2, 1) := by decide +kernel
theorem dX4_state_74 : decode cX4_state 74 = .ok (.iastore, 1) := by decide +kernel
theorem dX4_state_75 : decode cX4_state 75 = .ok (.return_, 1) := by decide +kernel
theorem dX4_share_0 : decode cX4_share 0 = .ok (.aload_n 0, 1) := by decide +kernel
theorem dX4_share_1 : decode cX4_share 1 = .ok (.iload_n 1, 1) := by decide +kernel
theorem dX4_share_2 : decode cX4_share 2 = .ok (.iload_n 2, 1) := by decide +kernel
theorem dX4_share_3 : decode cX4_share 3 = .ok (.invokevirtual 151, 3) := by decide +kernel
theorem dX4_share_6 : decode cX4_share 6 = .ok (.aload_n 0, 1) := by decide +kernel
theorem dX4_share_7 : decode cX4_share 7 = .ok (.getfield 26, 3) := by decide +kernel
theorem dX4_share_10 : decode cX4_share 10 = .ok (.getfield 111, 3) := by decide +kernel
theorem dX4_share_13 : decode cX4_share 13 = .ok (.iload_n 1, 1) := by decide +kernel
theorem dX4_share_14 : decode cX4_share 14 = .ok (.iload_n 2, 1) := by decide +kernel
theorem dX4_share_15 : decode cX4_share 15 = .ok (.invokestatic 148, 3) := by decide +kernel
theorem dX4_share_18 : decode cX4_share 18 = .ok (.iaload, 1) := by decide +kernel
theorem dX4_share_19 : decode cX4_share 19 = .ok (.istore_n 3, 1) := by decide +kernel
theorem dX4_share_20 : decode cX4_share 20 = .ok (.aload_n 0, 1) := by decide +kernel
theorem dX4_share_21 : decode cX4_share 21 = .ok (.getfield 12, 3) := by decide +kernel
theorem dX4_share_24 : decode cX4_share 24 = .ok (.iload_n 3, 1) := by decide +kernel
theorem dX4_share_25 : decode cX4_share 25 = .ok (.aload_n 0, 1) := by decide +kernel
theorem dX4_share_26 : decode cX4_share 26 = .ok (.getfield 26, 3) := by decide +kernel
theorem dX4_share_29 : decode cX4_share 29 = .ok (.getfield 154, 3) := by decide +kernel
theorem dX4_share_32 : decode cX4_share 32 = .ok (.iload_n 1, 1) := by decide +kernel
theorem dX4_share_33 : decode cX4_share 33 = .ok (.iaload, 1) := by decide +kernel
theorem dX4_share_34 : decode cX4_share 34 = .ok (.aload_n 0, 1) := by decide +kernel
theorem dX4_share_35 : decode cX4_share 35 = .ok (.getfield 26, 3) := by decide +kernel
theorem dX4_share_38 : decode cX4_share 38 = .ok (.getfield 154, 3) := by decide +kernel
theorem dX4_share_41 : decode cX4_share 41 = .ok (.iload_n 2, 1) := by decide +kernel
theorem dX4_share_42 : decode cX4_share 42 = .ok (.iaload, 1) := by decide +kernel
theorem dX4_share_43 : decode cX4_share 43 = .ok (.ior, 1) := by decide +kernel
theorem dX4_share_44 : decode cX4_share 44 = .ok (.invokevirtual 157, 3) := by decide +kernel
theorem dX4_share_47 : decode cX4_share 47 = .ok (.istore 4, 2) := by decide +kernel
theorem dX4_share_49 : decode cX4_share 49 = .ok (.iload 4, 2) := by decide +kernel
theorem dX4_share_51 : decode cX4_share 51 = .ok (.ifCond .ne 13, 3) := by decide +kernel
theorem dX4_share_54 : decode cX4_share 54 = .ok (.new 160, 3) := by decide +kernel
theorem dX4_share_57 : decode cX4_share 57 = .ok (.dup, 1) := by decide +kernel
theorem dX4_share_58 : decode cX4_share 58 = .ok (.ldc 162, 2) := by decide +kernel
theorem dX4_share_60 : decode cX4_share 60 = .ok (.invokespecial 164, 3) := by decide +kernel
theorem dX4_share_63 : decode cX4_share 63 = .ok (.athrow, 1) := by decide +kernel
theorem dX4_share_64 : decode cX4_share 64 = .ok (.sipush 1000, 3) := by decide +kernel
theorem dX4_share_67 : decode cX4_share 67 = .ok (.aload_n 0, 1) := by decide +kernel
theorem dX4_share_68 : decode cX4_share 68 = .ok (.getfield 12, 3) := by decide +kernel
theorem dX4_share_71 : decode cX4_share 71 = .ok (.iload_n 3, 1) := by decide +kernel
theorem dX4_share_72 : decode cX4_share 72 = .ok (.aload_n 0, 1) := by decide +kernel
theorem dX4_share_73 : decode cX4_share 73 = .ok (.getfield 26, 3) := by decide +kernel
theorem dX4_share_76 : decode cX4_share 76 = .ok (.getfield 154, 3) := by decide +kernel
theorem dX4_share_79 : decode cX4_share 79 = .ok (.iload_n 1, 1) := by decide +kernel
theorem dX4_share_80 : decode cX4_share 80 = .ok (.iaload, 1) := by decide +kernel
theorem dX4_share_81 : decode cX4_share 81 = .ok (.aload_n 0, 1) := by decide +kernel
theorem dX4_share_82 : decode cX4_share 82 = .ok (.getfield 26, 3) := by decide +kernel
theorem dX4_share_85 : decode cX4_share 85 = .ok (.getfield 154, 3) := by decide +kernel
theorem dX4_share_88 : decode cX4_share 88 = .ok (.iload_n 2, 1) := by decide +kernel
theorem dX4_share_89 : decode cX4_share 89 = .ok (.iaload, 1) := by decide +kernel
theorem dX4_share_90 : decode cX4_share 90 = .ok (.iand, 1) := by decide +kernel
theorem dX4_share_91 : decode cX4_share 91 = .ok (.invokevirtual 157, 3) := by decide +kernel
theorem dX4_share_94 : decode cX4_share 94 = .ok (.imul, 1) := by decide +kernel
theorem dX4_share_95 : decode cX4_share 95 = .ok (.iload 4, 2) := by decide +kernel
theorem dX4_share_97 : decode cX4_share 97 = .ok (.idiv, 1) := by decide +kernel
theorem dX4_share_98 : decode cX4_share 98 = .ok (.ireturn, 1) := by decide +kernel
theorem dX4_agree_0 : decode cX4_agree 0 = .ok (.aload_n 0, 1) := by decide +kernel
theorem dX4_agree_1 : decode cX4_agree 1 = .ok (.iload_n 1, 1) := by decide +kernel
theorem dX4_agree_2 : decode cX4_agree 2 = .ok (.iload_n 2, 1) := by decide +kernel
theorem dX4_agree_3 : decode cX4_agree 3 = .ok (.invokevirtual 151, 3) := by decide +kernel
theorem dX4_agree_6 : decode cX4_agree 6 = .ok (.aload_n 0, 1) := by decide +kernel
theorem dX4_agree_7 : decode cX4_agree 7 = .ok (.iload_n 1, 1) := by decide +kernel
theorem dX4_agree_8 : decode cX4_agree 8 = .ok (.iload_n 2, 1) := by decide +kernel
theorem dX4_agree_9 : decode cX4_agree 9 = .ok (.invokestatic 140, 3) := by decide +kernel
theorem dX4_agree_12 : decode cX4_agree 12 = .ok (.iload_n 1, 1) := by decide +kernel
theorem dX4_agree_13 : decode cX4_agree 13 = .ok (.iload_n 2, 1) := by decide +kernel
theorem dX4_agree_14 : decode cX4_agree 14 = .ok (.invokestatic 148, 3) := by decide +kernel
theorem dX4_agree_17 : decode cX4_agree 17 = .ok (.invokevirtual 167, 3) := by decide +kernel
theorem dX4_agree_20 : decode cX4_agree 20 = .ok (.ireturn, 1) := by decide +kernel
theorem dX4_callAt_0 : decode cX4_callAt 0 = .ok (.iload_n 1, 1) := by decide +kernel
theorem dX4_callAt_1 : decode cX4_callAt 1 = .ok (.aload_n 0, 1) := by decide +kernel
theorem dX4_callAt_2 : decode cX4_callAt 2 = .ok (.getfield 26, 3) := by decide +kernel
theorem dX4_callAt_5 : decode cX4_callAt 5 = .ok (.getfield 80, 3) := by decide +kernel
theorem dX4_callAt_8 : decode cX4_callAt 8 = .ok (.invokestatic 37, 3) := by decide +kernel
theorem dX4_callAt_11 : decode cX4_callAt 11 = .ok (.ifCond .eq 15, 3) := by decide +kernel
theorem dX4_callAt_14 : decode cX4_callAt 14 = .ok (.iload_n 2, 1) := by decide +kernel
theorem dX4_callAt_15 : decode cX4_callAt 15 = .ok (.iconst 5, 1) := by decide +kernel
theorem dX4_callAt_16 : decode cX4_callAt 16 = .ok (.invokestatic 37, 3) := by decide +kernel
theorem dX4_callAt_19 : decode cX4_callAt 19 = .ok (.ifCond .eq 7, 3) := by decide +kernel
theorem dX4_callAt_22 : decode cX4_callAt 22 = .ok (.iconst 1, 1) := by decide +kernel
theorem dX4_callAt_23 : decode cX4_callAt 23 = .ok (.goto 4, 3) := by decide +kernel
theorem dX4_callAt_26 : decode cX4_callAt 26 = .ok (.iconst 0, 1) := by decide +kernel
theorem dX4_callAt_27 : decode cX4_callAt 27 = .ok (.invokestatic 41, 3) := by decide +kernel
theorem dX4_callAt_30 : decode cX4_callAt 30 = .ok (.iload_n 2, 1) := by decide +kernel
theorem dX4_callAt_31 : decode cX4_callAt 31 = .ok (.tableswitch 69 0 3 #[29, 39, 49, 59], 29) := by decide +kernel
theorem dX4_callAt_60 : decode cX4_callAt 60 = .ok (.aload_n 0, 1) := by decide +kernel
theorem dX4_callAt_61 : decode cX4_callAt 61 = .ok (.getfield 26, 3) := by decide +kernel
theorem dX4_callAt_64 : decode cX4_callAt 64 = .ok (.getfield 95, 3) := by decide +kernel
theorem dX4_callAt_67 : decode cX4_callAt 67 = .ok (.iload_n 1, 1) := by decide +kernel
theorem dX4_callAt_68 : decode cX4_callAt 68 = .ok (.iaload, 1) := by decide +kernel
theorem dX4_callAt_69 : decode cX4_callAt 69 = .ok (.ireturn, 1) := by decide +kernel
theorem dX4_callAt_70 : decode cX4_callAt 70 = .ok (.aload_n 0, 1) := by decide +kernel
theorem dX4_callAt_71 : decode cX4_callAt 71 = .ok (.getfield 26, 3) := by decide +kernel
theorem dX4_callAt_74 : decode cX4_callAt 74 = .ok (.getfield 91, 3) := by decide +kernel
theorem dX4_callAt_77 : decode cX4_callAt 77 = .ok (.iload_n 1, 1) := by decide +kernel
theorem dX4_callAt_78 : decode cX4_callAt 78 = .ok (.iaload, 1) := by decide +kernel
theorem dX4_callAt_79 : decode cX4_callAt 79 = .ok (.ireturn, 1) := by decide +kernel
theorem dX4_callAt_80 : decode cX4_callAt 80 = .ok (.aload_n 0, 1) := by decide +kernel
theorem dX4_callAt_81 : decode cX4_callAt 81 = .ok (.getfield 26, 3) := by decide +kernel
theorem dX4_callAt_84 : decode cX4_callAt 84 = .ok (.getfield 101, 3) := by decide +kernel
theorem dX4_callAt_87 : decode cX4_callAt 87 = .ok (.iload_n 1, 1) := by decide +kernel
theorem dX4_callAt_88 : decode cX4_callAt 88 = .ok (.iaload, 1) := by decide +kernel
theorem dX4_callAt_89 : decode cX4_callAt 89 = .ok (.ireturn, 1) := by decide +kernel
theorem dX4_callAt_90 : decode cX4_callAt 90 = .ok (.aload_n 0, 1) := by decide +kernel
theorem dX4_callAt_91 : decode cX4_callAt 91 = .ok (.getfield 26, 3) := by decide +kernel
theorem dX4_callAt_94 : decode cX4_callAt 94 = .ok (.getfield 111, 3) := by decide +kernel
theorem dX4_callAt_97 : decode cX4_callAt 97 = .ok (.iload_n 1, 1) := by decide +kernel
theorem dX4_callAt_98 : decode cX4_callAt 98 = .ok (.iaload, 1) := by decide +kernel
theorem dX4_callAt_99 : decode cX4_callAt 99 = .ok (.ireturn, 1) := by decide +kernel
theorem dX4_callAt_100 : decode cX4_callAt 100 = .ok (.aload_n 0, 1) := by decide +kernel
theorem dX4_callAt_101 : decode cX4_callAt 101 = .ok (.getfield 26, 3) := by decide +kernel
theorem dX4_callAt_104 : decode cX4_callAt 104 = .ok (.getfield 118, 3) := by decide +kernel
theorem dX4_callAt_107 : decode cX4_callAt 107 = .ok (.iload_n 1, 1) := by decide +kernel
theorem dX4_callAt_108 : decode cX4_callAt 108 = .ok (.iaload, 1) := by decide +kernel
theorem dX4_callAt_109 : decode cX4_callAt 109 = .ok (.ireturn, 1) := by decide +kernel
theorem dX4_eventAt_0 : decode cX4_eventAt 0 = .ok (.iload_n 1, 1) := by decide +kernel
theorem dX4_eventAt_1 : decode cX4_eventAt 1 = .ok (.aload_n 0, 1) := by decide +kernel
theorem dX4_eventAt_2 : decode cX4_eventAt 2 = .ok (.getfield 33, 3) := by decide +kernel
theorem dX4_eventAt_5 : decode cX4_eventAt 5 = .ok (.getfield 94, 3) := by decide +kernel
theorem dX4_eventAt_8 : decode cX4_eventAt 8 = .ok (.invokestatic 37, 3) := by decide +kernel
theorem dX4_eventAt_11 : decode cX4_eventAt 11 = .ok (.ifCond .eq 16, 3) := by decide +kernel
theorem dX4_eventAt_14 : decode cX4_eventAt 14 = .ok (.iload_n 2, 1) := by decide +kernel
theorem dX4_eventAt_15 : decode cX4_eventAt 15 = .ok (.bipush 7, 2) := by decide +kernel
theorem dX4_eventAt_17 : decode cX4_eventAt 17 = .ok (.invokestatic 37, 3) := by decide +kernel
theorem dX4_eventAt_20 : decode cX4_eventAt 20 = .ok (.ifCond .eq 7, 3) := by decide +kernel
theorem dX4_eventAt_23 : decode cX4_eventAt 23 = .ok (.iconst 1, 1) := by decide +kernel
theorem dX4_eventAt_24 : decode cX4_eventAt 24 = .ok (.goto 4, 3) := by decide +kernel
theorem dX4_eventAt_27 : decode cX4_eventAt 27 = .ok (.iconst 0, 1) := by decide +kernel
theorem dX4_eventAt_28 : decode cX4_eventAt 28 = .ok (.invokestatic 41, 3) := by decide +kernel
theorem dX4_eventAt_31 : decode cX4_eventAt 31 = .ok (.iload_n 2, 1) := by decide +kernel
theorem dX4_eventAt_32 : decode cX4_eventAt 32 = .ok (.tableswitch 97 0 5 #[40, 50, 59, 69, 78, 87], 40) := by decide +kernel
theorem dX4_eventAt_72 : decode cX4_eventAt 72 = .ok (.aload_n 0, 1) := by decide +kernel
theorem dX4_eventAt_73 : decode cX4_eventAt 73 = .ok (.getfield 33, 3) := by decide +kernel
theorem dX4_eventAt_76 : decode cX4_eventAt 76 = .ok (.getfield 121, 3) := by decide +kernel
theorem dX4_eventAt_79 : decode cX4_eventAt 79 = .ok (.iload_n 1, 1) := by decide +kernel
theorem dX4_eventAt_80 : decode cX4_eventAt 80 = .ok (.iaload, 1) := by decide +kernel
theorem dX4_eventAt_81 : decode cX4_eventAt 81 = .ok (.ireturn, 1) := by decide +kernel
theorem dX4_eventAt_82 : decode cX4_eventAt 82 = .ok (.aload_n 0, 1) := by decide +kernel
theorem dX4_eventAt_83 : decode cX4_eventAt 83 = .ok (.getfield 26, 3) := by decide +kernel
theorem dX4_eventAt_86 : decode cX4_eventAt 86 = .ok (.iload_n 1, 1) := by decide +kernel
theorem dX4_eventAt_87 : decode cX4_eventAt 87 = .ok (.invokevirtual 130, 3) := by decide +kernel
theorem dX4_eventAt_90 : decode cX4_eventAt 90 = .ok (.ireturn, 1) := by decide +kernel
theorem dX4_eventAt_91 : decode cX4_eventAt 91 = .ok (.aload_n 0, 1) := by decide +kernel
theorem dX4_eventAt_92 : decode cX4_eventAt 92 = .ok (.getfield 33, 3) := by decide +kernel
theorem dX4_eventAt_95 : decode cX4_eventAt 95 = .ok (.getfield 170, 3) := by decide +kernel
theorem dX4_eventAt_98 : decode cX4_eventAt 98 = .ok (.iload_n 1, 1) := by decide +kernel
theorem dX4_eventAt_99 : decode cX4_eventAt 99 = .ok (.iaload, 1) := by decide +kernel
theorem dX4_eventAt_100 : decode cX4_eventAt 100 = .ok (.ireturn, 1) := by decide +kernel
theorem dX4_eventAt_101 : decode cX4_eventAt 101 = .ok (.aload_n 0, 1) := by decide +kernel
theorem dX4_eventAt_102 : decode cX4_eventAt 102 = .ok (.getfield 26, 3) := by decide +kernel
theorem dX4_eventAt_105 : decode cX4_eventAt 105 = .ok (.iload_n 1, 1) := by decide +kernel
theorem dX4_eventAt_106 : decode cX4_eventAt 106 = .ok (.invokevirtual 171, 3) := by decide +kernel
theorem dX4_eventAt_109 : decode cX4_eventAt 109 = .ok (.ireturn, 1) := by decide +kernel
theorem dX4_eventAt_110 : decode cX4_eventAt 110 = .ok (.aload_n 0, 1) := by decide +kernel
theorem dX4_eventAt_111 : decode cX4_eventAt 111 = .ok (.getfield 26, 3) := by decide +kernel
theorem dX4_eventAt_114 : decode cX4_eventAt 114 = .ok (.iload_n 1, 1) := by decide +kernel
theorem dX4_eventAt_115 : decode cX4_eventAt 115 = .ok (.invokevirtual 174, 3) := by decide +kernel
theorem dX4_eventAt_118 : decode cX4_eventAt 118 = .ok (.ireturn, 1) := by decide +kernel
theorem dX4_eventAt_119 : decode cX4_eventAt 119 = .ok (.aload_n 0, 1) := by decide +kernel
theorem dX4_eventAt_120 : decode cX4_eventAt 120 = .ok (.getfield 33, 3) := by decide +kernel
theorem dX4_eventAt_123 : decode cX4_eventAt 123 = .ok (.getfield 124, 3) := by decide +kernel
theorem dX4_eventAt_126 : decode cX4_eventAt 126 = .ok (.iload_n 1, 1) := by decide +kernel
theorem dX4_eventAt_127 : decode cX4_eventAt 127 = .ok (.iaload, 1) := by decide +kernel
theorem dX4_eventAt_128 : decode cX4_eventAt 128 = .ok (.ireturn, 1) := by decide +kernel
theorem dX4_eventAt_129 : decode cX4_eventAt 129 = .ok (.aload_n 0, 1) := by decide +kernel
theorem dX4_eventAt_130 : decode cX4_eventAt 130 = .ok (.getfield 26, 3) := by decide +kernel
theorem dX4_eventAt_133 : decode cX4_eventAt 133 = .ok (.iload_n 1, 1) := by decide +kernel
theorem dX4_eventAt_134 : decode cX4_eventAt 134 = .ok (.invokevirtual 177, 3) := by decide +kernel
theorem dX4_eventAt_137 : decode cX4_eventAt 137 = .ok (.ireturn, 1) := by decide +kernel
theorem dX4_member_0 : decode cX4_member 0 = .ok (.iload_n 1, 1) := by decide +kernel
theorem dX4_member_1 : decode cX4_member 1 = .ok (.aload_n 0, 1) := by decide +kernel
theorem dX4_member_2 : decode cX4_member 2 = .ok (.getfield 33, 3) := by decide +kernel
theorem dX4_member_5 : decode cX4_member 5 = .ok (.getfield 94, 3) := by decide +kernel
theorem dX4_member_8 : decode cX4_member 8 = .ok (.invokestatic 37, 3) := by decide +kernel
theorem dX4_member_11 : decode cX4_member 11 = .ok (.invokestatic 41, 3) := by decide +kernel
theorem dX4_member_14 : decode cX4_member 14 = .ok (.aload_n 0, 1) := by decide +kernel
theorem dX4_member_15 : decode cX4_member 15 = .ok (.getfield 26, 3) := by decide +kernel
theorem dX4_member_18 : decode cX4_member 18 = .ok (.iload_n 1, 1) := by decide +kernel
theorem dX4_member_19 : decode cX4_member 19 = .ok (.iload_n 2, 1) := by decide +kernel
theorem dX4_member_20 : decode cX4_member 20 = .ok (.invokevirtual 180, 3) := by decide +kernel
theorem dX4_member_23 : decode cX4_member 23 = .ok (.istore_n 3, 1) := by decide +kernel
theorem dX4_member_24 : decode cX4_member 24 = .ok (.iload_n 3, 1) := by decide +kernel
theorem dX4_member_25 : decode cX4_member 25 = .ok (.iconst (-1), 1) := by decide +kernel
theorem dX4_member_26 : decode cX4_member 26 = .ok (.if_icmp .eq 7, 3) := by decide +kernel
theorem dX4_member_29 : decode cX4_member 29 = .ok (.iconst 1, 1) := by decide +kernel
theorem dX4_member_30 : decode cX4_member 30 = .ok (.goto 4, 3) := by decide +kernel
theorem dX4_member_33 : decode cX4_member 33 = .ok (.iconst 0, 1) := by decide +kernel
theorem dX4_member_34 : decode cX4_member 34 = .ok (.invokestatic 45, 3) := by decide +kernel
theorem dX4_member_37 : decode cX4_member 37 = .ok (.iload_n 3, 1) := by decide +kernel
theorem dX4_member_38 : decode cX4_member 38 = .ok (.ireturn, 1) := by decide +kernel
theorem dX4_count_0 : decode cX4_count 0 = .ok (.iload_n 1, 1) := by decide +kernel
theorem dX4_count_1 : decode cX4_count 1 = .ok (.iconst 4, 1) := by decide +kernel
theorem dX4_count_2 : decode cX4_count 2 = .ok (.invokestatic 37, 3) := by decide +kernel
theorem dX4_count_5 : decode cX4_count 5 = .ok (.invokestatic 41, 3) := by decide +kernel
theorem dX4_count_8 : decode cX4_count 8 = .ok (.iload_n 1, 1) := by decide +kernel
theorem dX4_count_9 : decode cX4_count 9 = .ok (.tableswitch 51 0 2 #[27, 35, 43], 27) := by decide +kernel
theorem dX4_count_36 : decode cX4_count 36 = .ok (.aload_n 0, 1) := by decide +kernel
theorem dX4_count_37 : decode cX4_count 37 = .ok (.getfield 26, 3) := by decide +kernel
theorem dX4_count_40 : decode cX4_count 40 = .ok (.getfield 80, 3) := by decide +kernel
theorem dX4_count_43 : decode cX4_count 43 = .ok (.ireturn, 1) := by decide +kernel
theorem dX4_count_44 : decode cX4_count 44 = .ok (.aload_n 0, 1) := by decide +kernel
theorem dX4_count_45 : decode cX4_count 45 = .ok (.getfield 33, 3) := by decide +kernel
theorem dX4_count_48 : decode cX4_count 48 = .ok (.getfield 94, 3) := by decide +kernel
theorem dX4_count_51 : decode cX4_count 51 = .ok (.ireturn, 1) := by decide +kernel
theorem dX4_count_52 : decode cX4_count 52 = .ok (.aload_n 0, 1) := by decide +kernel
theorem dX4_count_53 : decode cX4_count 53 = .ok (.getfield 33, 3) := by decide +kernel
theorem dX4_count_56 : decode cX4_count 56 = .ok (.invokevirtual 183, 3) := by decide +kernel
theorem dX4_count_59 : decode cX4_count 59 = .ok (.ireturn, 1) := by decide +kernel
theorem dX4_count_60 : decode cX4_count 60 = .ok (.aload_n 0, 1) := by decide +kernel
theorem dX4_count_61 : decode cX4_count 61 = .ok (.getfield 26, 3) := by decide +kernel
theorem dX4_count_64 : decode cX4_count 64 = .ok (.invokevirtual 187, 3) := by decide +kernel
theorem dX4_count_67 : decode cX4_count 67 = .ok (.ireturn, 1) := by decide +kernel
theorem dX4_isBelow_0 : decode cX4_isBelow 0 = .ok (.iload_n 0, 1) := by decide +kernel
theorem dX4_isBelow_1 : decode cX4_isBelow 1 = .ok (.ifCond .lt 12, 3) := by decide +kernel
theorem dX4_isBelow_4 : decode cX4_isBelow 4 = .ok (.iload_n 0, 1) := by decide +kernel
theorem dX4_isBelow_5 : decode cX4_isBelow 5 = .ok (.iload_n 1, 1) := by decide +kernel
theorem dX4_isBelow_6 : decode cX4_isBelow 6 = .ok (.if_icmp .ge 7, 3) := by decide +kernel
theorem dX4_isBelow_9 : decode cX4_isBelow 9 = .ok (.iconst 1, 1) := by decide +kernel
theorem dX4_isBelow_10 : decode cX4_isBelow 10 = .ok (.goto 4, 3) := by decide +kernel
theorem dX4_isBelow_13 : decode cX4_isBelow 13 = .ok (.iconst 0, 1) := by decide +kernel
theorem dX4_isBelow_14 : decode cX4_isBelow 14 = .ok (.ireturn, 1) := by decide +kernel
theorem dX4_needKnown_0 : decode cX4_needKnown 0 = .ok (.iload_n 0, 1) := by decide +kernel
theorem dX4_needKnown_1 : decode cX4_needKnown 1 = .ok (.ifCond .ne 13, 3) := by decide +kernel
theorem dX4_needKnown_4 : decode cX4_needKnown 4 = .ok (.new 190, 3) := by decide +kernel
theorem dX4_needKnown_7 : decode cX4_needKnown 7 = .ok (.dup, 1) := by decide +kernel
theorem dX4_needKnown_8 : decode cX4_needKnown 8 = .ok (.ldc 192, 2) := by decide +kernel
theorem dX4_needKnown_10 : decode cX4_needKnown 10 = .ok (.invokespecial 194, 3) := by decide +kernel
theorem dX4_needKnown_13 : decode cX4_needKnown 13 = .ok (.athrow, 1) := by decide +kernel
theorem dX4_needKnown_14 : decode cX4_needKnown 14 = .ok (.return_, 1) := by decide +kernel
theorem dX4_needRange_0 : decode cX4_needRange 0 = .ok (.iload_n 0, 1) := by decide +kernel
theorem dX4_needRange_1 : decode cX4_needRange 1 = .ok (.ifCond .ne 13, 3) := by decide +kernel
theorem dX4_needRange_4 : decode cX4_needRange 4 = .ok (.new 195, 3) := by decide +kernel
theorem dX4_needRange_7 : decode cX4_needRange 7 = .ok (.dup, 1) := by decide +kernel
theorem dX4_needRange_8 : decode cX4_needRange 8 = .ok (.ldc 197, 2) := by decide +kernel
theorem dX4_needRange_10 : decode cX4_needRange 10 = .ok (.invokespecial 199, 3) := by decide +kernel
theorem dX4_needRange_13 : decode cX4_needRange 13 = .ok (.athrow, 1) := by decide +kernel
theorem dX4_needRange_14 : decode cX4_needRange 14 = .ok (.return_, 1) := by decide +kernel
theorem dX4_needState_0 : decode cX4_needState 0 = .ok (.iload_n 0, 1) := by decide +kernel
theorem dX4_needState_1 : decode cX4_needState 1 = .ok (.ifCond .ne 13, 3) := by decide +kernel
theorem dX4_needState_4 : decode cX4_needState 4 = .ok (.new 200, 3) := by decide +kernel
theorem dX4_needState_7 : decode cX4_needState 7 = .ok (.dup, 1) := by decide +kernel
theorem dX4_needState_8 : decode cX4_needState 8 = .ok (.ldc 202, 2) := by decide +kernel
theorem dX4_needState_10 : decode cX4_needState 10 = .ok (.invokespecial 204, 3) := by decide +kernel
theorem dX4_needState_13 : decode cX4_needState 13 = .ok (.athrow, 1) := by decide +kernel
theorem dX4_needState_14 : decode cX4_needState 14 = .ok (.return_, 1) := by decide +kernel
theorem dX4_needRoom_0 : decode cX4_needRoom 0 = .ok (.iload_n 0, 1) := by decide +kernel
theorem dX4_needRoom_1 : decode cX4_needRoom 1 = .ok (.ifCond .ne 13, 3) := by decide +kernel
theorem dX4_needRoom_4 : decode cX4_needRoom 4 = .ok (.new 205, 3) := by decide +kernel
theorem dX4_needRoom_7 : decode cX4_needRoom 7 = .ok (.dup, 1) := by decide +kernel
theorem dX4_needRoom_8 : decode cX4_needRoom 8 = .ok (.ldc 207, 2) := by decide +kernel
theorem dX4_needRoom_10 : decode cX4_needRoom 10 = .ok (.invokespecial 209, 3) := by decide +kernel
theorem dX4_needRoom_13 : decode cX4_needRoom 13 = .ok (.athrow, 1) := by decide +kernel
theorem dX4_needRoom_14 : decode cX4_needRoom 14 = .ok (.return_, 1) := by decide +kernel
theorem dX4_needCallData_0 : decode cX4_needCallData 0 = .ok (.iload_n 2, 1) := by decide +kernel
theorem dX4_needCallData_1 : decode cX4_needCallData 1 = .ok (.bipush 8, 2) := by decide +kernel
theorem dX4_needCallData_3 : decode cX4_needCallData 3 = .ok (.invokestatic 37, 3) := by decide +kernel
theorem dX4_needCallData_6 : decode cX4_needCallData 6 = .ok (.invokestatic 41, 3) := by decide +kernel
theorem dX4_needCallData_9 : decode cX4_needCallData 9 = .ok (.iload 4, 2) := by decide +kernel
theorem dX4_needCallData_11 : decode cX4_needCallData 11 = .ok (.iconst (-1), 1) := by decide +kernel
theorem dX4_needCallData_12 : decode cX4_needCallData 12 = .ok (.if_icmp .eq 13, 3) := by decide +kernel
theorem dX4_needCallData_15 : decode cX4_needCallData 15 = .ok (.iload 4, 2) := by decide +kernel
theorem dX4_needCallData_17 : decode cX4_needCallData 17 = .ok (.bipush 8, 2) := by decide +kernel
theorem dX4_needCallData_19 : decode cX4_needCallData 19 = .ok (.invokestatic 37, 3) := by decide +kernel
theorem dX4_needCallData_22 : decode cX4_needCallData 22 = .ok (.ifCond .eq 7, 3) := by decide +kernel
theorem dX4_needCallData_25 : decode cX4_needCallData 25 = .ok (.iconst 1, 1) := by decide +kernel
theorem dX4_needCallData_26 : decode cX4_needCallData 26 = .ok (.goto 4, 3) := by decide +kernel
theorem dX4_needCallData_29 : decode cX4_needCallData 29 = .ok (.iconst 0, 1) := by decide +kernel
theorem dX4_needCallData_30 : decode cX4_needCallData 30 = .ok (.invokestatic 41, 3) := by decide +kernel
theorem dX4_needCallData_33 : decode cX4_needCallData 33 = .ok (.iload_n 1, 1) := by decide +kernel
theorem dX4_needCallData_34 : decode cX4_needCallData 34 = .ok (.sipush 1000, 3) := by decide +kernel
theorem dX4_needCallData_37 : decode cX4_needCallData 37 = .ok (.invokestatic 37, 3) := by decide +kernel
theorem dX4_needCallData_40 : decode cX4_needCallData 40 = .ok (.invokestatic 45, 3) := by decide +kernel
theorem dX4_needCallData_43 : decode cX4_needCallData 43 = .ok (.iload_n 3, 1) := by decide +kernel
theorem dX4_needCallData_44 : decode cX4_needCallData 44 = .ok (.iconst (-1), 1) := by decide +kernel
theorem dX4_needCallData_45 : decode cX4_needCallData 45 = .ok (.if_icmp .eq 12, 3) := by decide +kernel
theorem dX4_needCallData_48 : decode cX4_needCallData 48 = .ok (.iload_n 3, 1) := by decide +kernel
theorem dX4_needCallData_49 : decode cX4_needCallData 49 = .ok (.ldc 65, 2) := by decide +kernel
theorem dX4_needCallData_51 : decode cX4_needCallData 51 = .ok (.invokestatic 37, 3) := by decide +kernel
theorem dX4_needCallData_54 : decode cX4_needCallData 54 = .ok (.ifCond .eq 7, 3) := by decide +kernel
theorem dX4_needCallData_57 : decode cX4_needCallData 57 = .ok (.iconst 1, 1) := by decide +kernel
theorem dX4_needCallData_58 : decode cX4_needCallData 58 = .ok (.goto 4, 3) := by decide +kernel
theorem dX4_needCallData_61 : decode cX4_needCallData 61 = .ok (.iconst 0, 1) := by decide +kernel
theorem dX4_needCallData_62 : decode cX4_needCallData 62 = .ok (.invokestatic 45, 3) := by decide +kernel
theorem dX4_needCallData_65 : decode cX4_needCallData 65 = .ok (.iload 5, 2) := by decide +kernel
theorem dX4_needCallData_67 : decode cX4_needCallData 67 = .ok (.aload_n 0, 1) := by decide +kernel
theorem dX4_needCallData_68 : decode cX4_needCallData 68 = .ok (.getfield 26, 3) := by decide +kernel
theorem dX4_needCallData_71 : decode cX4_needCallData 71 = .ok (.invokevirtual 210, 3) := by decide +kernel
theorem dX4_needCallData_74 : decode cX4_needCallData 74 = .ok (.if_icmp .lt 7, 3) := by decide +kernel
theorem dX4_needCallData_77 : decode cX4_needCallData 77 = .ok (.iconst 1, 1) := by decide +kernel
theorem dX4_needCallData_78 : decode cX4_needCallData 78 = .ok (.goto 4, 3) := by decide +kernel
theorem dX4_needCallData_81 : decode cX4_needCallData 81 = .ok (.iconst 0, 1) := by decide +kernel
theorem dX4_needCallData_82 : decode cX4_needCallData 82 = .ok (.invokestatic 45, 3) := by decide +kernel
theorem dX4_needCallData_85 : decode cX4_needCallData 85 = .ok (.return_, 1) := by decide +kernel
theorem dX4_needTwoCalls_0 : decode cX4_needTwoCalls 0 = .ok (.iload_n 1, 1) := by decide +kernel
theorem dX4_needTwoCalls_1 : decode cX4_needTwoCalls 1 = .ok (.aload_n 0, 1) := by decide +kernel
theorem dX4_needTwoCalls_2 : decode cX4_needTwoCalls 2 = .ok (.getfield 26, 3) := by decide +kernel
theorem dX4_needTwoCalls_5 : decode cX4_needTwoCalls 5 = .ok (.getfield 80, 3) := by decide +kernel
theorem dX4_needTwoCalls_8 : decode cX4_needTwoCalls 8 = .ok (.invokestatic 37, 3) := by decide +kernel
theorem dX4_needTwoCalls_11 : decode cX4_needTwoCalls 11 = .ok (.ifCond .eq 26, 3) := by decide +kernel
theorem dX4_needTwoCalls_14 : decode cX4_needTwoCalls 14 = .ok (.iload_n 2, 1) := by decide +kernel
theorem dX4_needTwoCalls_15 : decode cX4_needTwoCalls 15 = .ok (.aload_n 0, 1) := by decide +kernel
theorem dX4_needTwoCalls_16 : decode cX4_needTwoCalls 16 = .ok (.getfield 26, 3) := by decide +kernel
theorem dX4_needTwoCalls_19 : decode cX4_needTwoCalls 19 = .ok (.getfield 80, 3) := by decide +kernel
theorem dX4_needTwoCalls_22 : decode cX4_needTwoCalls 22 = .ok (.invokestatic 37, 3) := by decide +kernel
theorem dX4_needTwoCalls_25 : decode cX4_needTwoCalls 25 = .ok (.ifCond .eq 12, 3) := by decide +kernel
theorem dX4_needTwoCalls_28 : decode cX4_needTwoCalls 28 = .ok (.iload_n 1, 1) := by decide +kernel
theorem dX4_needTwoCalls_29 : decode cX4_needTwoCalls 29 = .ok (.iload_n 2, 1) := by decide +kernel
theorem dX4_needTwoCalls_30 : decode cX4_needTwoCalls 30 = .ok (.if_icmp .eq 7, 3) := by decide +kernel
theorem dX4_needTwoCalls_33 : decode cX4_needTwoCalls 33 = .ok (.iconst 1, 1) := by decide +kernel
theorem dX4_needTwoCalls_34 : decode cX4_needTwoCalls 34 = .ok (.goto 4, 3) := by decide +kernel
theorem dX4_needTwoCalls_37 : decode cX4_needTwoCalls 37 = .ok (.iconst 0, 1) := by decide +kernel
theorem dX4_needTwoCalls_38 : decode cX4_needTwoCalls 38 = .ok (.invokestatic 41, 3) := by decide +kernel
theorem dX4_needTwoCalls_41 : decode cX4_needTwoCalls 41 = .ok (.return_, 1) := by decide +kernel
theorem dX4_isInOpenEvent_0 : decode cX4_isInOpenEvent 0 = .ok (.aload_n 0, 1) := by decide +kernel
theorem dX4_isInOpenEvent_1 : decode cX4_isInOpenEvent 1 = .ok (.getfield 33, 3) := by decide +kernel
theorem dX4_isInOpenEvent_4 : decode cX4_isInOpenEvent 4 = .ok (.getfield 121, 3) := by decide +kernel
theorem dX4_isInOpenEvent_7 : decode cX4_isInOpenEvent 7 = .ok (.aload_n 0, 1) := by decide +kernel
theorem dX4_isInOpenEvent_8 : decode cX4_isInOpenEvent 8 = .ok (.getfield 26, 3) := by decide +kernel
theorem dX4_isInOpenEvent_11 : decode cX4_isInOpenEvent 11 = .ok (.getfield 95, 3) := by decide +kernel
theorem dX4_isInOpenEvent_14 : decode cX4_isInOpenEvent 14 = .ok (.iload_n 1, 1) := by decide +kernel
theorem dX4_isInOpenEvent_15 : decode cX4_isInOpenEvent 15 = .ok (.iaload, 1) := by decide +kernel
theorem dX4_isInOpenEvent_16 : decode cX4_isInOpenEvent 16 = .ok (.iaload, 1) := by decide +kernel
theorem dX4_isInOpenEvent_17 : decode cX4_isInOpenEvent 17 = .ok (.ifCond .ne 7, 3) := by decide +kernel
theorem dX4_isInOpenEvent_20 : decode cX4_isInOpenEvent 20 = .ok (.iconst 1, 1) := by decide +kernel
theorem dX4_isInOpenEvent_21 : decode cX4_isInOpenEvent 21 = .ok (.goto 4, 3) := by decide +kernel
theorem dX4_isInOpenEvent_24 : decode cX4_isInOpenEvent 24 = .ok (.iconst 0, 1) := by decide +kernel
theorem dX4_isInOpenEvent_25 : decode cX4_isInOpenEvent 25 = .ok (.ireturn, 1) := by decide +kernel
theorem dX4_canBeReason_0 : decode cX4_canBeReason 0 = .ok (.aload_n 0, 1) := by decide +kernel
theorem dX4_canBeReason_1 : decode cX4_canBeReason 1 = .ok (.getfield 26, 3) := by decide +kernel
theorem dX4_canBeReason_4 : decode cX4_canBeReason 4 = .ok (.iload_n 1, 1) := by decide +kernel
theorem dX4_canBeReason_5 : decode cX4_canBeReason 5 = .ok (.invokevirtual 213, 3) := by decide +kernel
theorem dX4_canBeReason_8 : decode cX4_canBeReason 8 = .ok (.ifCond .ne 15, 3) := by decide +kernel
theorem dX4_canBeReason_11 : decode cX4_canBeReason 11 = .ok (.aload_n 0, 1) := by decide +kernel
theorem dX4_canBeReason_12 : decode cX4_canBeReason 12 = .ok (.iload_n 1, 1) := by decide +kernel
theorem dX4_canBeReason_13 : decode cX4_canBeReason 13 = .ok (.invokevirtual 104, 3) := by decide +kernel
theorem dX4_canBeReason_16 : decode cX4_canBeReason 16 = .ok (.ifCond .eq 7, 3) := by decide +kernel
theorem dX4_canBeReason_19 : decode cX4_canBeReason 19 = .ok (.iconst 1, 1) := by decide +kernel
theorem dX4_canBeReason_20 : decode cX4_canBeReason 20 = .ok (.goto 4, 3) := by decide +kernel
theorem dX4_canBeReason_23 : decode cX4_canBeReason 23 = .ok (.iconst 0, 1) := by decide +kernel
theorem dX4_canBeReason_24 : decode cX4_canBeReason 24 = .ok (.ireturn, 1) := by decide +kernel
theorem dX4_seekReason_0 : decode cX4_seekReason 0 = .ok (.aload_n 0, 1) := by decide +kernel
theorem dX4_seekReason_1 : decode cX4_seekReason 1 = .ok (.iload_n 1, 1) := by decide +kernel
theorem dX4_seekReason_2 : decode cX4_seekReason 2 = .ok (.aload_n 0, 1) := by decide +kernel
theorem dX4_seekReason_3 : decode cX4_seekReason 3 = .ok (.iload_n 1, 1) := by decide +kernel
theorem dX4_seekReason_4 : decode cX4_seekReason 4 = .ok (.invokevirtual 216, 3) := by decide +kernel
theorem dX4_seekReason_7 : decode cX4_seekReason 7 = .ok (.iconst 1, 1) := by decide +kernel
theorem dX4_seekReason_8 : decode cX4_seekReason 8 = .ok (.invokevirtual 219, 3) := by decide +kernel
theorem dX4_seekReason_11 : decode cX4_seekReason 11 = .ok (.ifCond .eq 4, 3) := by decide +kernel
theorem dX4_seekReason_14 : decode cX4_seekReason 14 = .ok (.return_, 1) := by decide +kernel
theorem dX4_seekReason_15 : decode cX4_seekReason 15 = .ok (.aload_n 0, 1) := by decide +kernel
theorem dX4_seekReason_16 : decode cX4_seekReason 16 = .ok (.iload_n 1, 1) := by decide +kernel
theorem dX4_seekReason_17 : decode cX4_seekReason 17 = .ok (.aload_n 0, 1) := by decide +kernel
theorem dX4_seekReason_18 : decode cX4_seekReason 18 = .ok (.iload_n 1, 1) := by decide +kernel
theorem dX4_seekReason_19 : decode cX4_seekReason 19 = .ok (.invokevirtual 223, 3) := by decide +kernel
theorem dX4_seekReason_22 : decode cX4_seekReason 22 = .ok (.iconst 2, 1) := by decide +kernel
theorem dX4_seekReason_23 : decode cX4_seekReason 23 = .ok (.invokevirtual 219, 3) := by decide +kernel
theorem dX4_seekReason_26 : decode cX4_seekReason 26 = .ok (.ifCond .eq 4, 3) := by decide +kernel
theorem dX4_seekReason_29 : decode cX4_seekReason 29 = .ok (.return_, 1) := by decide +kernel
theorem dX4_seekReason_30 : decode cX4_seekReason 30 = .ok (.aload_n 0, 1) := by decide +kernel
theorem dX4_seekReason_31 : decode cX4_seekReason 31 = .ok (.iload_n 1, 1) := by decide +kernel
theorem dX4_seekReason_32 : decode cX4_seekReason 32 = .ok (.aload_n 0, 1) := by decide +kernel
theorem dX4_seekReason_33 : decode cX4_seekReason 33 = .ok (.iload_n 1, 1) := by decide +kernel
theorem dX4_seekReason_34 : decode cX4_seekReason 34 = .ok (.invokevirtual 226, 3) := by decide +kernel
theorem dX4_seekReason_37 : decode cX4_seekReason 37 = .ok (.iconst 3, 1) := by decide +kernel
theorem dX4_seekReason_38 : decode cX4_seekReason 38 = .ok (.invokevirtual 219, 3) := by decide +kernel
theorem dX4_seekReason_41 : decode cX4_seekReason 41 = .ok (.ifCond .eq 4, 3) := by decide +kernel
theorem dX4_seekReason_44 : decode cX4_seekReason 44 = .ok (.return_, 1) := by decide +kernel
theorem dX4_seekReason_45 : decode cX4_seekReason 45 = .ok (.aload_n 0, 1) := by decide +kernel
theorem dX4_seekReason_46 : decode cX4_seekReason 46 = .ok (.iload_n 1, 1) := by decide +kernel
theorem dX4_seekReason_47 : decode cX4_seekReason 47 = .ok (.aload_n 0, 1) := by decide +kernel
theorem dX4_seekReason_48 : decode cX4_seekReason 48 = .ok (.iload_n 1, 1) := by decide +kernel
theorem dX4_seekReason_49 : decode cX4_seekReason 49 = .ok (.invokevirtual 229, 3) := by decide +kernel
theorem dX4_seekReason_52 : decode cX4_seekReason 52 = .ok (.iconst 4, 1) := by decide +kernel
theorem dX4_seekReason_53 : decode cX4_seekReason 53 = .ok (.invokevirtual 219, 3) := by decide +kernel
theorem dX4_seekReason_56 : decode cX4_seekReason 56 = .ok (.pop, 1) := by decide +kernel
theorem dX4_seekReason_57 : decode cX4_seekReason 57 = .ok (.return_, 1) := by decide +kernel
theorem dX4_takeReason_0 : decode cX4_takeReason 0 = .ok (.iload_n 2, 1) := by decide +kernel
theorem dX4_takeReason_1 : decode cX4_takeReason 1 = .ok (.iconst (-1), 1) := by decide +kernel
theorem dX4_takeReason_2 : decode cX4_takeReason 2 = .ok (.if_icmp .ne 5, 3) := by decide +kernel
theorem dX4_takeReason_5 : decode cX4_takeReason 5 = .ok (.iconst 0, 1) := by decide +kernel
theorem dX4_takeReason_6 : decode cX4_takeReason 6 = .ok (.ireturn, 1) := by decide +kernel
theorem dX4_takeReason_7 : decode cX4_takeReason 7 = .ok (.aload_n 0, 1) := by decide +kernel
theorem dX4_takeReason_8 : decode cX4_takeReason 8 = .ok (.getfield 26, 3) := by decide +kernel
theorem dX4_takeReason_11 : decode cX4_takeReason 11 = .ok (.getfield 91, 3) := by decide +kernel
theorem dX4_takeReason_14 : decode cX4_takeReason 14 = .ok (.iload_n 1, 1) := by decide +kernel
theorem dX4_takeReason_15 : decode cX4_takeReason 15 = .ok (.iload_n 2, 1) := by decide +kernel
theorem dX4_takeReason_16 : decode cX4_takeReason 16 = .ok (.iastore, 1) := by decide +kernel
theorem dX4_takeReason_17 : decode cX4_takeReason 17 = .ok (.aload_n 0, 1) := by decide +kernel
theorem dX4_takeReason_18 : decode cX4_takeReason 18 = .ok (.getfield 26, 3) := by decide +kernel
theorem dX4_takeReason_21 : decode cX4_takeReason 21 = .ok (.getfield 118, 3) := by decide +kernel
theorem dX4_takeReason_24 : decode cX4_takeReason 24 = .ok (.iload_n 1, 1) := by decide +kernel
theorem dX4_takeReason_25 : decode cX4_takeReason 25 = .ok (.iload_n 3, 1) := by decide +kernel
theorem dX4_takeReason_26 : decode cX4_takeReason 26 = .ok (.iastore, 1) := by decide +kernel
theorem dX4_takeReason_27 : decode cX4_takeReason 27 = .ok (.iconst 1, 1) := by decide +kernel
theorem dX4_takeReason_28 : decode cX4_takeReason 28 = .ok (.ireturn, 1) := by decide +kernel
theorem dX4_latestOfLine_0 : decode cX4_latestOfLine 0 = .ok (.aload_n 0, 1) := by decide +kernel
theorem dX4_latestOfLine_1 : decode cX4_latestOfLine 1 = .ok (.getfield 26, 3) := by decide +kernel
theorem dX4_latestOfLine_4 : decode cX4_latestOfLine 4 = .ok (.getfield 80, 3) := by decide +kernel
theorem dX4_latestOfLine_7 : decode cX4_latestOfLine 7 = .ok (.iconst 1, 1) := by decide +kernel
theorem dX4_latestOfLine_8 : decode cX4_latestOfLine 8 = .ok (.isub, 1) := by decide +kernel
theorem dX4_latestOfLine_9 : decode cX4_latestOfLine 9 = .ok (.istore_n 2, 1) := by decide +kernel
theorem dX4_latestOfLine_10 : decode cX4_latestOfLine 10 = .ok (.iload_n 2, 1) := by decide +kernel
theorem dX4_latestOfLine_11 : decode cX4_latestOfLine 11 = .ok (.ifCond .lt 53, 3) := by decide +kernel
theorem dX4_latestOfLine_14 : decode cX4_latestOfLine 14 = .ok (.aload_n 0, 1) := by decide +kernel
theorem dX4_latestOfLine_15 : decode cX4_latestOfLine 15 = .ok (.getfield 26, 3) := by decide +kernel
