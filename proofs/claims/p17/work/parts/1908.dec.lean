theorem dX0_init_41 : decode cX0_init 41 = .ok (.aload_n 0, 1) := by decide +kernel
theorem dX0_init_42 : decode cX0_init 42 = .ok (.bipush 121, 2) := by decide +kernel
theorem dX0_init_44 : decode cX0_init 44 = .ok (.newarray .int, 2) := by decide +kernel
theorem dX0_init_46 : decode cX0_init 46 = .ok (.putfield 28, 3) := by decide +kernel
theorem dX0_init_49 : decode cX0_init 49 = .ok (.aload_n 0, 1) := by decide +kernel
theorem dX0_init_50 : decode cX0_init 50 = .ok (.bipush 121, 2) := by decide +kernel
theorem dX0_init_52 : decode cX0_init 52 = .ok (.newarray .int, 2) := by decide +kernel
theorem dX0_init_54 : decode cX0_init 54 = .ok (.putfield 31, 3) := by decide +kernel
theorem dX0_init_57 : decode cX0_init 57 = .ok (.aload_n 0, 1) := by decide +kernel
theorem dX0_init_58 : decode cX0_init 58 = .ok (.bipush 121, 2) := by decide +kernel
theorem dX0_init_60 : decode cX0_init 60 = .ok (.newarray .int, 2) := by decide +kernel
theorem dX0_init_62 : decode cX0_init 62 = .ok (.putfield 34, 3) := by decide +kernel
theorem dX0_init_65 : decode cX0_init 65 = .ok (.aload_n 0, 1) := by decide +kernel
theorem dX0_init_66 : decode cX0_init 66 = .ok (.bipush 121, 2) := by decide +kernel
theorem dX0_init_68 : decode cX0_init 68 = .ok (.newarray .int, 2) := by decide +kernel
theorem dX0_init_70 : decode cX0_init 70 = .ok (.putfield 37, 3) := by decide +kernel
theorem dX0_init_73 : decode cX0_init 73 = .ok (.aload_n 0, 1) := by decide +kernel
theorem dX0_init_74 : decode cX0_init 74 = .ok (.bipush 121, 2) := by decide +kernel
theorem dX0_init_76 : decode cX0_init 76 = .ok (.newarray .int, 2) := by decide +kernel
theorem dX0_init_78 : decode cX0_init 78 = .ok (.putfield 40, 3) := by decide +kernel
theorem dX0_init_81 : decode cX0_init 81 = .ok (.aload_n 0, 1) := by decide +kernel
theorem dX0_init_82 : decode cX0_init 82 = .ok (.bipush 121, 2) := by decide +kernel
theorem dX0_init_84 : decode cX0_init 84 = .ok (.newarray .int, 2) := by decide +kernel
theorem dX0_init_86 : decode cX0_init 86 = .ok (.putfield 43, 3) := by decide +kernel
theorem dX0_init_89 : decode cX0_init 89 = .ok (.return_, 1) := by decide +kernel
theorem dX0_draft_0 : decode cX0_draft 0 = .ok (.aload_n 0, 1) := by decide +kernel
theorem dX0_draft_1 : decode cX0_draft 1 = .ok (.getfield 15, 3) := by decide +kernel
theorem dX0_draft_4 : decode cX0_draft 4 = .ok (.aload_n 0, 1) := by decide +kernel
theorem dX0_draft_5 : decode cX0_draft 5 = .ok (.getfield 9, 3) := by decide +kernel
theorem dX0_draft_8 : decode cX0_draft 8 = .ok (.iload_n 1, 1) := by decide +kernel
theorem dX0_draft_9 : decode cX0_draft 9 = .ok (.iastore, 1) := by decide +kernel
theorem dX0_draft_10 : decode cX0_draft 10 = .ok (.aload_n 0, 1) := by decide +kernel
theorem dX0_draft_11 : decode cX0_draft 11 = .ok (.getfield 19, 3) := by decide +kernel
theorem dX0_draft_14 : decode cX0_draft 14 = .ok (.aload_n 0, 1) := by decide +kernel
theorem dX0_draft_15 : decode cX0_draft 15 = .ok (.getfield 9, 3) := by decide +kernel
theorem dX0_draft_18 : decode cX0_draft 18 = .ok (.iload_n 2, 1) := by decide +kernel
theorem dX0_draft_19 : decode cX0_draft 19 = .ok (.iastore, 1) := by decide +kernel
theorem dX0_draft_20 : decode cX0_draft 20 = .ok (.aload_n 0, 1) := by decide +kernel
theorem dX0_draft_21 : decode cX0_draft 21 = .ok (.getfield 22, 3) := by decide +kernel
theorem dX0_draft_24 : decode cX0_draft 24 = .ok (.aload_n 0, 1) := by decide +kernel
theorem dX0_draft_25 : decode cX0_draft 25 = .ok (.getfield 9, 3) := by decide +kernel
theorem dX0_draft_28 : decode cX0_draft 28 = .ok (.iload_n 3, 1) := by decide +kernel
theorem dX0_draft_29 : decode cX0_draft 29 = .ok (.iastore, 1) := by decide +kernel
theorem dX0_draft_30 : decode cX0_draft 30 = .ok (.aload_n 0, 1) := by decide +kernel
theorem dX0_draft_31 : decode cX0_draft 31 = .ok (.getfield 25, 3) := by decide +kernel
theorem dX0_draft_34 : decode cX0_draft 34 = .ok (.aload_n 0, 1) := by decide +kernel
theorem dX0_draft_35 : decode cX0_draft 35 = .ok (.getfield 9, 3) := by decide +kernel
theorem dX0_draft_38 : decode cX0_draft 38 = .ok (.iload 4, 2) := by decide +kernel
theorem dX0_draft_40 : decode cX0_draft 40 = .ok (.iastore, 1) := by decide +kernel
theorem dX0_draft_41 : decode cX0_draft 41 = .ok (.aload_n 0, 1) := by decide +kernel
theorem dX0_draft_42 : decode cX0_draft 42 = .ok (.getfield 28, 3) := by decide +kernel
theorem dX0_draft_45 : decode cX0_draft 45 = .ok (.aload_n 0, 1) := by decide +kernel
theorem dX0_draft_46 : decode cX0_draft 46 = .ok (.getfield 9, 3) := by decide +kernel
theorem dX0_draft_49 : decode cX0_draft 49 = .ok (.iload 5, 2) := by decide +kernel
theorem dX0_draft_51 : decode cX0_draft 51 = .ok (.iastore, 1) := by decide +kernel
theorem dX0_draft_52 : decode cX0_draft 52 = .ok (.aload_n 0, 1) := by decide +kernel
theorem dX0_draft_53 : decode cX0_draft 53 = .ok (.getfield 31, 3) := by decide +kernel
theorem dX0_draft_56 : decode cX0_draft 56 = .ok (.aload_n 0, 1) := by decide +kernel
theorem dX0_draft_57 : decode cX0_draft 57 = .ok (.getfield 9, 3) := by decide +kernel
theorem dX0_draft_60 : decode cX0_draft 60 = .ok (.iload 6, 2) := by decide +kernel
theorem dX0_draft_62 : decode cX0_draft 62 = .ok (.iastore, 1) := by decide +kernel
theorem dX0_draft_63 : decode cX0_draft 63 = .ok (.aload_n 0, 1) := by decide +kernel
theorem dX0_draft_64 : decode cX0_draft 64 = .ok (.getfield 37, 3) := by decide +kernel
theorem dX0_draft_67 : decode cX0_draft 67 = .ok (.aload_n 0, 1) := by decide +kernel
theorem dX0_draft_68 : decode cX0_draft 68 = .ok (.getfield 9, 3) := by decide +kernel
theorem dX0_draft_71 : decode cX0_draft 71 = .ok (.iconst (-1), 1) := by decide +kernel
theorem dX0_draft_72 : decode cX0_draft 72 = .ok (.iastore, 1) := by decide +kernel
theorem dX0_draft_73 : decode cX0_draft 73 = .ok (.aload_n 0, 1) := by decide +kernel
theorem dX0_draft_74 : decode cX0_draft 74 = .ok (.getfield 40, 3) := by decide +kernel
theorem dX0_draft_77 : decode cX0_draft 77 = .ok (.aload_n 0, 1) := by decide +kernel
theorem dX0_draft_78 : decode cX0_draft 78 = .ok (.getfield 9, 3) := by decide +kernel
theorem dX0_draft_81 : decode cX0_draft 81 = .ok (.iconst 0, 1) := by decide +kernel
theorem dX0_draft_82 : decode cX0_draft 82 = .ok (.iastore, 1) := by decide +kernel
theorem dX0_draft_83 : decode cX0_draft 83 = .ok (.aload_n 0, 1) := by decide +kernel
theorem dX0_draft_84 : decode cX0_draft 84 = .ok (.getfield 43, 3) := by decide +kernel
theorem dX0_draft_87 : decode cX0_draft 87 = .ok (.aload_n 0, 1) := by decide +kernel
theorem dX0_draft_88 : decode cX0_draft 88 = .ok (.getfield 9, 3) := by decide +kernel
theorem dX0_draft_91 : decode cX0_draft 91 = .ok (.iconst 0, 1) := by decide +kernel
theorem dX0_draft_92 : decode cX0_draft 92 = .ok (.iastore, 1) := by decide +kernel
theorem dX0_draft_93 : decode cX0_draft 93 = .ok (.aload_n 0, 1) := by decide +kernel
theorem dX0_draft_94 : decode cX0_draft 94 = .ok (.getfield 9, 3) := by decide +kernel
theorem dX0_draft_97 : decode cX0_draft 97 = .ok (.ireturn, 1) := by decide +kernel
theorem dX0_latestTime_0 : decode cX0_latestTime 0 = .ok (.aload_n 0, 1) := by decide +kernel
theorem dX0_latestTime_1 : decode cX0_latestTime 1 = .ok (.getfield 9, 3) := by decide +kernel
theorem dX0_latestTime_4 : decode cX0_latestTime 4 = .ok (.ifCond .ne 7, 3) := by decide +kernel
theorem dX0_latestTime_7 : decode cX0_latestTime 7 = .ok (.iconst 0, 1) := by decide +kernel
theorem dX0_latestTime_8 : decode cX0_latestTime 8 = .ok (.goto 14, 3) := by decide +kernel
theorem dX0_latestTime_11 : decode cX0_latestTime 11 = .ok (.aload_n 0, 1) := by decide +kernel
theorem dX0_latestTime_12 : decode cX0_latestTime 12 = .ok (.getfield 31, 3) := by decide +kernel
theorem dX0_latestTime_15 : decode cX0_latestTime 15 = .ok (.aload_n 0, 1) := by decide +kernel
theorem dX0_latestTime_16 : decode cX0_latestTime 16 = .ok (.getfield 9, 3) := by decide +kernel
theorem dX0_latestTime_19 : decode cX0_latestTime 19 = .ok (.iconst 1, 1) := by decide +kernel
theorem dX0_latestTime_20 : decode cX0_latestTime 20 = .ok (.isub, 1) := by decide +kernel
theorem dX0_latestTime_21 : decode cX0_latestTime 21 = .ok (.iaload, 1) := by decide +kernel
theorem dX0_latestTime_22 : decode cX0_latestTime 22 = .ok (.ireturn, 1) := by decide +kernel
theorem dX0_isHoax_0 : decode cX0_isHoax 0 = .ok (.aload_n 0, 1) := by decide +kernel
theorem dX0_isHoax_1 : decode cX0_isHoax 1 = .ok (.getfield 43, 3) := by decide +kernel
theorem dX0_isHoax_4 : decode cX0_isHoax 4 = .ok (.iload_n 1, 1) := by decide +kernel
theorem dX0_isHoax_5 : decode cX0_isHoax 5 = .ok (.iaload, 1) := by decide +kernel
theorem dX0_isHoax_6 : decode cX0_isHoax 6 = .ok (.iconst 4, 1) := by decide +kernel
theorem dX0_isHoax_7 : decode cX0_isHoax 7 = .ok (.iand, 1) := by decide +kernel
theorem dX0_isHoax_8 : decode cX0_isHoax 8 = .ok (.ifCond .eq 7, 3) := by decide +kernel
theorem dX0_isHoax_11 : decode cX0_isHoax 11 = .ok (.iconst 1, 1) := by decide +kernel
theorem dX0_isHoax_12 : decode cX0_isHoax 12 = .ok (.goto 4, 3) := by decide +kernel
theorem dX0_isHoax_15 : decode cX0_isHoax 15 = .ok (.iconst 0, 1) := by decide +kernel
theorem dX0_isHoax_16 : decode cX0_isHoax 16 = .ok (.ireturn, 1) := by decide +kernel
theorem dX0_moveBranch_0 : decode cX0_moveBranch 0 = .ok (.iconst 0, 1) := by decide +kernel
theorem dX0_moveBranch_1 : decode cX0_moveBranch 1 = .ok (.istore_n 3, 1) := by decide +kernel
theorem dX0_moveBranch_2 : decode cX0_moveBranch 2 = .ok (.iload_n 3, 1) := by decide +kernel
theorem dX0_moveBranch_3 : decode cX0_moveBranch 3 = .ok (.aload_n 0, 1) := by decide +kernel
theorem dX0_moveBranch_4 : decode cX0_moveBranch 4 = .ok (.getfield 9, 3) := by decide +kernel
theorem dX0_moveBranch_7 : decode cX0_moveBranch 7 = .ok (.if_icmp .ge 25, 3) := by decide +kernel
theorem dX0_moveBranch_10 : decode cX0_moveBranch 10 = .ok (.aload_n 0, 1) := by decide +kernel
theorem dX0_moveBranch_11 : decode cX0_moveBranch 11 = .ok (.iload_n 3, 1) := by decide +kernel
theorem dX0_moveBranch_12 : decode cX0_moveBranch 12 = .ok (.iload_n 1, 1) := by decide +kernel
theorem dX0_moveBranch_13 : decode cX0_moveBranch 13 = .ok (.invokevirtual 46, 3) := by decide +kernel
theorem dX0_moveBranch_16 : decode cX0_moveBranch 16 = .ok (.ifCond .eq 10, 3) := by decide +kernel
theorem dX0_moveBranch_19 : decode cX0_moveBranch 19 = .ok (.aload_n 0, 1) := by decide +kernel
theorem dX0_moveBranch_20 : decode cX0_moveBranch 20 = .ok (.getfield 34, 3) := by decide +kernel
theorem dX0_moveBranch_23 : decode cX0_moveBranch 23 = .ok (.iload_n 3, 1) := by decide +kernel
theorem dX0_moveBranch_24 : decode cX0_moveBranch 24 = .ok (.iload_n 2, 1) := by decide +kernel
theorem dX0_moveBranch_25 : decode cX0_moveBranch 25 = .ok (.iastore, 1) := by decide +kernel
theorem dX0_moveBranch_26 : decode cX0_moveBranch 26 = .ok (.iinc 3 1, 3) := by decide +kernel
theorem dX0_moveBranch_29 : decode cX0_moveBranch 29 = .ok (.goto (-27), 3) := by decide +kernel
theorem dX0_moveBranch_32 : decode cX0_moveBranch 32 = .ok (.return_, 1) := by decide +kernel
theorem dX0_isUnder_0 : decode cX0_isUnder 0 = .ok (.iload_n 1, 1) := by decide +kernel
theorem dX0_isUnder_1 : decode cX0_isUnder 1 = .ok (.istore_n 3, 1) := by decide +kernel
theorem dX0_isUnder_2 : decode cX0_isUnder 2 = .ok (.iconst 0, 1) := by decide +kernel
theorem dX0_isUnder_3 : decode cX0_isUnder 3 = .ok (.istore 4, 2) := by decide +kernel
theorem dX0_isUnder_5 : decode cX0_isUnder 5 = .ok (.iload 4, 2) := by decide +kernel
theorem dX0_isUnder_7 : decode cX0_isUnder 7 = .ok (.bipush 120, 2) := by decide +kernel
theorem dX0_isUnder_9 : decode cX0_isUnder 9 = .ok (.if_icmp .ge 28, 3) := by decide +kernel
theorem dX0_isUnder_12 : decode cX0_isUnder 12 = .ok (.iload_n 3, 1) := by decide +kernel
theorem dX0_isUnder_13 : decode cX0_isUnder 13 = .ok (.iconst (-1), 1) := by decide +kernel
theorem dX0_isUnder_14 : decode cX0_isUnder 14 = .ok (.if_icmp .eq 23, 3) := by decide +kernel
theorem dX0_isUnder_17 : decode cX0_isUnder 17 = .ok (.iload_n 3, 1) := by decide +kernel
theorem dX0_isUnder_18 : decode cX0_isUnder 18 = .ok (.iload_n 2, 1) := by decide +kernel
theorem dX0_isUnder_19 : decode cX0_isUnder 19 = .ok (.if_icmp .ne 5, 3) := by decide +kernel
theorem dX0_isUnder_22 : decode cX0_isUnder 22 = .ok (.iconst 1, 1) := by decide +kernel
theorem dX0_isUnder_23 : decode cX0_isUnder 23 = .ok (.ireturn, 1) := by decide +kernel
theorem dX0_isUnder_24 : decode cX0_isUnder 24 = .ok (.aload_n 0, 1) := by decide +kernel
theorem dX0_isUnder_25 : decode cX0_isUnder 25 = .ok (.getfield 37, 3) := by decide +kernel
theorem dX0_isUnder_28 : decode cX0_isUnder 28 = .ok (.iload_n 3, 1) := by decide +kernel
theorem dX0_isUnder_29 : decode cX0_isUnder 29 = .ok (.iaload, 1) := by decide +kernel
theorem dX0_isUnder_30 : decode cX0_isUnder 30 = .ok (.istore_n 3, 1) := by decide +kernel
theorem dX0_isUnder_31 : decode cX0_isUnder 31 = .ok (.iinc 4 1, 3) := by decide +kernel
theorem dX0_isUnder_34 : decode cX0_isUnder 34 = .ok (.goto (-29), 3) := by decide +kernel
theorem dX0_isUnder_37 : decode cX0_isUnder 37 = .ok (.iconst 0, 1) := by decide +kernel
theorem dX0_isUnder_38 : decode cX0_isUnder 38 = .ok (.ireturn, 1) := by decide +kernel
theorem dX0_moveAll_0 : decode cX0_moveAll 0 = .ok (.iconst 0, 1) := by decide +kernel
theorem dX0_moveAll_1 : decode cX0_moveAll 1 = .ok (.istore_n 3, 1) := by decide +kernel
theorem dX0_moveAll_2 : decode cX0_moveAll 2 = .ok (.iload_n 3, 1) := by decide +kernel
theorem dX0_moveAll_3 : decode cX0_moveAll 3 = .ok (.aload_n 0, 1) := by decide +kernel
theorem dX0_moveAll_4 : decode cX0_moveAll 4 = .ok (.getfield 9, 3) := by decide +kernel
theorem dX0_moveAll_7 : decode cX0_moveAll 7 = .ok (.if_icmp .ge 26, 3) := by decide +kernel
theorem dX0_moveAll_10 : decode cX0_moveAll 10 = .ok (.aload_n 0, 1) := by decide +kernel
theorem dX0_moveAll_11 : decode cX0_moveAll 11 = .ok (.getfield 34, 3) := by decide +kernel
theorem dX0_moveAll_14 : decode cX0_moveAll 14 = .ok (.iload_n 3, 1) := by decide +kernel
theorem dX0_moveAll_15 : decode cX0_moveAll 15 = .ok (.iaload, 1) := by decide +kernel
theorem dX0_moveAll_16 : decode cX0_moveAll 16 = .ok (.iload_n 1, 1) := by decide +kernel
theorem dX0_moveAll_17 : decode cX0_moveAll 17 = .ok (.if_icmp .ne 10, 3) := by decide +kernel
theorem dX0_moveAll_20 : decode cX0_moveAll 20 = .ok (.aload_n 0, 1) := by decide +kernel
theorem dX0_moveAll_21 : decode cX0_moveAll 21 = .ok (.getfield 34, 3) := by decide +kernel
theorem dX0_moveAll_24 : decode cX0_moveAll 24 = .ok (.iload_n 3, 1) := by decide +kernel
theorem dX0_moveAll_25 : decode cX0_moveAll 25 = .ok (.iload_n 2, 1) := by decide +kernel
theorem dX0_moveAll_26 : decode cX0_moveAll 26 = .ok (.iastore, 1) := by decide +kernel
theorem dX0_moveAll_27 : decode cX0_moveAll 27 = .ok (.iinc 3 1, 3) := by decide +kernel
theorem dX0_moveAll_30 : decode cX0_moveAll 30 = .ok (.goto (-28), 3) := by decide +kernel
theorem dX0_moveAll_33 : decode cX0_moveAll 33 = .ok (.return_, 1) := by decide +kernel
theorem dX0_countIn_0 : decode cX0_countIn 0 = .ok (.iconst 0, 1) := by decide +kernel
theorem dX0_countIn_1 : decode cX0_countIn 1 = .ok (.istore_n 2, 1) := by decide +kernel
theorem dX0_countIn_2 : decode cX0_countIn 2 = .ok (.iconst 0, 1) := by decide +kernel
theorem dX0_countIn_3 : decode cX0_countIn 3 = .ok (.istore_n 3, 1) := by decide +kernel
theorem dX0_countIn_4 : decode cX0_countIn 4 = .ok (.iload_n 3, 1) := by decide +kernel
theorem dX0_countIn_5 : decode cX0_countIn 5 = .ok (.aload_n 0, 1) := by decide +kernel
theorem dX0_countIn_6 : decode cX0_countIn 6 = .ok (.getfield 9, 3) := by decide +kernel
theorem dX0_countIn_9 : decode cX0_countIn 9 = .ok (.if_icmp .ge 22, 3) := by decide +kernel
theorem dX0_countIn_12 : decode cX0_countIn 12 = .ok (.aload_n 0, 1) := by decide +kernel
theorem dX0_countIn_13 : decode cX0_countIn 13 = .ok (.getfield 34, 3) := by decide +kernel
theorem dX0_countIn_16 : decode cX0_countIn 16 = .ok (.iload_n 3, 1) := by decide +kernel
theorem dX0_countIn_17 : decode cX0_countIn 17 = .ok (.iaload, 1) := by decide +kernel
theorem dX0_countIn_18 : decode cX0_countIn 18 = .ok (.iload_n 1, 1) := by decide +kernel
theorem dX0_countIn_19 : decode cX0_countIn 19 = .ok (.if_icmp .ne 6, 3) := by decide +kernel
theorem dX0_countIn_22 : decode cX0_countIn 22 = .ok (.iinc 2 1, 3) := by decide +kernel
theorem dX0_countIn_25 : decode cX0_countIn 25 = .ok (.iinc 3 1, 3) := by decide +kernel
theorem dX0_countIn_28 : decode cX0_countIn 28 = .ok (.goto (-24), 3) := by decide +kernel
theorem dX0_countIn_31 : decode cX0_countIn 31 = .ok (.iload_n 2, 1) := by decide +kernel
theorem dX0_countIn_32 : decode cX0_countIn 32 = .ok (.ireturn, 1) := by decide +kernel
theorem dX0_memberOf_0 : decode cX0_memberOf 0 = .ok (.iconst 0, 1) := by decide +kernel
theorem dX0_memberOf_1 : decode cX0_memberOf 1 = .ok (.istore_n 3, 1) := by decide +kernel
theorem dX0_memberOf_2 : decode cX0_memberOf 2 = .ok (.iconst 0, 1) := by decide +kernel
theorem dX0_memberOf_3 : decode cX0_memberOf 3 = .ok (.istore 4, 2) := by decide +kernel
theorem dX0_memberOf_5 : decode cX0_memberOf 5 = .ok (.iload 4, 2) := by decide +kernel
theorem dX0_memberOf_7 : decode cX0_memberOf 7 = .ok (.aload_n 0, 1) := by decide +kernel
theorem dX0_memberOf_8 : decode cX0_memberOf 8 = .ok (.getfield 9, 3) := by decide +kernel
theorem dX0_memberOf_11 : decode cX0_memberOf 11 = .ok (.if_icmp .ge 31, 3) := by decide +kernel
theorem dX0_memberOf_14 : decode cX0_memberOf 14 = .ok (.aload_n 0, 1) := by decide +kernel
theorem dX0_memberOf_15 : decode cX0_memberOf 15 = .ok (.getfield 34, 3) := by decide +kernel
theorem dX0_memberOf_18 : decode cX0_memberOf 18 = .ok (.iload 4, 2) := by decide +kernel
theorem dX0_memberOf_20 : decode cX0_memberOf 20 = .ok (.iaload, 1) := by decide +kernel
theorem dX0_memberOf_21 : decode cX0_memberOf 21 = .ok (.iload_n 1, 1) := by decide +kernel
theorem dX0_memberOf_22 : decode cX0_memberOf 22 = .ok (.if_icmp .ne 14, 3) := by decide +kernel
theorem dX0_memberOf_25 : decode cX0_memberOf 25 = .ok (.iload_n 3, 1) := by decide +kernel
theorem dX0_memberOf_26 : decode cX0_memberOf 26 = .ok (.iload_n 2, 1) := by decide +kernel
theorem dX0_memberOf_27 : decode cX0_memberOf 27 = .ok (.if_icmp .ne 6, 3) := by decide +kernel
theorem dX0_memberOf_30 : decode cX0_memberOf 30 = .ok (.iload 4, 2) := by decide +kernel
theorem dX0_memberOf_32 : decode cX0_memberOf 32 = .ok (.ireturn, 1) := by decide +kernel
theorem dX0_memberOf_33 : decode cX0_memberOf 33 = .ok (.iinc 3 1, 3) := by decide +kernel
theorem dX0_memberOf_36 : decode cX0_memberOf 36 = .ok (.iinc 4 1, 3) := by decide +kernel
theorem dX0_memberOf_39 : decode cX0_memberOf 39 = .ok (.goto (-34), 3) := by decide +kernel
theorem dX0_memberOf_42 : decode cX0_memberOf 42 = .ok (.iconst (-1), 1) := by decide +kernel
theorem dX0_memberOf_43 : decode cX0_memberOf 43 = .ok (.ireturn, 1) := by decide +kernel
theorem dX0_weighEvent_0 : decode cX0_weighEvent 0 = .ok (.iconst 0, 1) := by decide +kernel
theorem dX0_weighEvent_1 : decode cX0_weighEvent 1 = .ok (.istore_n 2, 1) := by decide +kernel
theorem dX0_weighEvent_2 : decode cX0_weighEvent 2 = .ok (.iconst 0, 1) := by decide +kernel
theorem dX0_weighEvent_3 : decode cX0_weighEvent 3 = .ok (.istore_n 3, 1) := by decide +kernel
theorem dX0_weighEvent_4 : decode cX0_weighEvent 4 = .ok (.iload_n 3, 1) := by decide +kernel
theorem dX0_weighEvent_5 : decode cX0_weighEvent 5 = .ok (.aload_n 0, 1) := by decide +kernel
theorem dX0_weighEvent_6 : decode cX0_weighEvent 6 = .ok (.getfield 9, 3) := by decide +kernel
theorem dX0_weighEvent_9 : decode cX0_weighEvent 9 = .ok (.if_icmp .ge 35, 3) := by decide +kernel
theorem dX0_weighEvent_12 : decode cX0_weighEvent 12 = .ok (.aload_n 0, 1) := by decide +kernel
theorem dX0_weighEvent_13 : decode cX0_weighEvent 13 = .ok (.getfield 34, 3) := by decide +kernel
theorem dX0_weighEvent_16 : decode cX0_weighEvent 16 = .ok (.iload_n 3, 1) := by decide +kernel
theorem dX0_weighEvent_17 : decode cX0_weighEvent 17 = .ok (.iaload, 1) := by decide +kernel
theorem dX0_weighEvent_18 : decode cX0_weighEvent 18 = .ok (.iload_n 1, 1) := by decide +kernel
theorem dX0_weighEvent_19 : decode cX0_weighEvent 19 = .ok (.if_icmp .ne 19, 3) := by decide +kernel
theorem dX0_weighEvent_22 : decode cX0_weighEvent 22 = .ok (.aload_n 0, 1) := by decide +kernel
theorem dX0_weighEvent_23 : decode cX0_weighEvent 23 = .ok (.iload_n 3, 1) := by decide +kernel
theorem dX0_weighEvent_24 : decode cX0_weighEvent 24 = .ok (.invokevirtual 50, 3) := by decide +kernel
theorem dX0_weighEvent_27 : decode cX0_weighEvent 27 = .ok (.ifCond .ne 11, 3) := by decide +kernel
theorem dX0_weighEvent_30 : decode cX0_weighEvent 30 = .ok (.iload_n 2, 1) := by decide +kernel
theorem dX0_weighEvent_31 : decode cX0_weighEvent 31 = .ok (.aload_n 0, 1) := by decide +kernel
theorem dX0_weighEvent_32 : decode cX0_weighEvent 32 = .ok (.iload_n 3, 1) := by decide +kernel
theorem dX0_weighEvent_33 : decode cX0_weighEvent 33 = .ok (.invokevirtual 54, 3) := by decide +kernel
theorem dX0_weighEvent_36 : decode cX0_weighEvent 36 = .ok (.iadd, 1) := by decide +kernel
theorem dX0_weighEvent_37 : decode cX0_weighEvent 37 = .ok (.istore_n 2, 1) := by decide +kernel
theorem dX0_weighEvent_38 : decode cX0_weighEvent 38 = .ok (.iinc 3 1, 3) := by decide +kernel
theorem dX0_weighEvent_41 : decode cX0_weighEvent 41 = .ok (.goto (-37), 3) := by decide +kernel
theorem dX0_weighEvent_44 : decode cX0_weighEvent 44 = .ok (.iload_n 2, 1) := by decide +kernel
theorem dX0_weighEvent_45 : decode cX0_weighEvent 45 = .ok (.ireturn, 1) := by decide +kernel
theorem dX0_weighCall_0 : decode cX0_weighCall 0 = .ok (.iconst 4, 1) := by decide +kernel
theorem dX0_weighCall_1 : decode cX0_weighCall 1 = .ok (.istore_n 2, 1) := by decide +kernel
theorem dX0_weighCall_2 : decode cX0_weighCall 2 = .ok (.aload_n 0, 1) := by decide +kernel
theorem dX0_weighCall_3 : decode cX0_weighCall 3 = .ok (.getfield 43, 3) := by decide +kernel
theorem dX0_weighCall_6 : decode cX0_weighCall 6 = .ok (.iload_n 1, 1) := by decide +kernel
theorem dX0_weighCall_7 : decode cX0_weighCall 7 = .ok (.iaload, 1) := by decide +kernel
theorem dX0_weighCall_8 : decode cX0_weighCall 8 = .ok (.iconst 1, 1) := by decide +kernel
theorem dX0_weighCall_9 : decode cX0_weighCall 9 = .ok (.iand, 1) := by decide +kernel
theorem dX0_weighCall_10 : decode cX0_weighCall 10 = .ok (.ifCond .eq 6, 3) := by decide +kernel
theorem dX0_weighCall_13 : decode cX0_weighCall 13 = .ok (.iinc 2 (-2), 3) := by decide +kernel
theorem dX0_weighCall_16 : decode cX0_weighCall 16 = .ok (.aload_n 0, 1) := by decide +kernel
theorem dX0_weighCall_17 : decode cX0_weighCall 17 = .ok (.getfield 22, 3) := by decide +kernel
theorem dX0_weighCall_20 : decode cX0_weighCall 20 = .ok (.iload_n 1, 1) := by decide +kernel
theorem dX0_weighCall_21 : decode cX0_weighCall 21 = .ok (.iaload, 1) := by decide +kernel
theorem dX0_weighCall_22 : decode cX0_weighCall 22 = .ok (.iconst (-1), 1) := by decide +kernel
theorem dX0_weighCall_23 : decode cX0_weighCall 23 = .ok (.if_icmp .eq 6, 3) := by decide +kernel
theorem dX0_weighCall_26 : decode cX0_weighCall 26 = .ok (.iinc 2 1, 3) := by decide +kernel
theorem dX0_weighCall_29 : decode cX0_weighCall 29 = .ok (.iload_n 2, 1) := by decide +kernel
theorem dX0_weighCall_30 : decode cX0_weighCall 30 = .ok (.ireturn, 1) := by decide +kernel
theorem dX0_pointOf_0 : decode cX0_pointOf 0 = .ok (.iconst 0, 1) := by decide +kernel
theorem dX0_pointOf_1 : decode cX0_pointOf 1 = .ok (.istore_n 2, 1) := by decide +kernel
theorem dX0_pointOf_2 : decode cX0_pointOf 2 = .ok (.iload_n 2, 1) := by decide +kernel
theorem dX0_pointOf_3 : decode cX0_pointOf 3 = .ok (.aload_n 0, 1) := by decide +kernel
theorem dX0_pointOf_4 : decode cX0_pointOf 4 = .ok (.getfield 9, 3) := by decide +kernel
theorem dX0_pointOf_7 : decode cX0_pointOf 7 = .ok (.if_icmp .ge 44, 3) := by decide +kernel
theorem dX0_pointOf_10 : decode cX0_pointOf 10 = .ok (.aload_n 0, 1) := by decide +kernel
theorem dX0_pointOf_11 : decode cX0_pointOf 11 = .ok (.getfield 34, 3) := by decide +kernel
theorem dX0_pointOf_14 : decode cX0_pointOf 14 = .ok (.iload_n 2, 1) := by decide +kernel
theorem dX0_pointOf_15 : decode cX0_pointOf 15 = .ok (.iaload, 1) := by decide +kernel
theorem dX0_pointOf_16 : decode cX0_pointOf 16 = .ok (.iload_n 1, 1) := by decide +kernel
theorem dX0_pointOf_17 : decode cX0_pointOf 17 = .ok (.if_icmp .ne 28, 3) := by decide +kernel
theorem dX0_pointOf_20 : decode cX0_pointOf 20 = .ok (.aload_n 0, 1) := by decide +kernel
theorem dX0_pointOf_21 : decode cX0_pointOf 21 = .ok (.iload_n 2, 1) := by decide +kernel
theorem dX0_pointOf_22 : decode cX0_pointOf 22 = .ok (.invokevirtual 50, 3) := by decide +kernel
theorem dX0_pointOf_25 : decode cX0_pointOf 25 = .ok (.ifCond .ne 20, 3) := by decide +kernel
theorem dX0_pointOf_28 : decode cX0_pointOf 28 = .ok (.aload_n 0, 1) := by decide +kernel
theorem dX0_pointOf_29 : decode cX0_pointOf 29 = .ok (.getfield 22, 3) := by decide +kernel
theorem dX0_pointOf_32 : decode cX0_pointOf 32 = .ok (.iload_n 2, 1) := by decide +kernel
theorem dX0_pointOf_33 : decode cX0_pointOf 33 = .ok (.iaload, 1) := by decide +kernel
theorem dX0_pointOf_34 : decode cX0_pointOf 34 = .ok (.iconst (-1), 1) := by decide +kernel
theorem dX0_pointOf_35 : decode cX0_pointOf 35 = .ok (.if_icmp .eq 10, 3) := by decide +kernel
theorem dX0_pointOf_38 : decode cX0_pointOf 38 = .ok (.aload_n 0, 1) := by decide +kernel
theorem dX0_pointOf_39 : decode cX0_pointOf 39 = .ok (.getfield 22, 3) := by decide +kernel
theorem dX0_pointOf_42 : decode cX0_pointOf 42 = .ok (.iload_n 2, 1) := by decide +kernel
theorem dX0_pointOf_43 : decode cX0_pointOf 43 = .ok (.iaload, 1) := by decide +kernel
theorem dX0_pointOf_44 : decode cX0_pointOf 44 = .ok (.ireturn, 1) := by decide +kernel
theorem dX0_pointOf_45 : decode cX0_pointOf 45 = .ok (.iinc 2 1, 3) := by decide +kernel
theorem dX0_pointOf_48 : decode cX0_pointOf 48 = .ok (.goto (-46), 3) := by decide +kernel
theorem dX0_pointOf_51 : decode cX0_pointOf 51 = .ok (.iconst (-1), 1) := by decide +kernel
theorem dX0_pointOf_52 : decode cX0_pointOf 52 = .ok (.ireturn, 1) := by decide +kernel
theorem dX0_latestTimeOf_0 : decode cX0_latestTimeOf 0 = .ok (.aload_n 0, 1) := by decide +kernel
theorem dX0_latestTimeOf_1 : decode cX0_latestTimeOf 1 = .ok (.getfield 9, 3) := by decide +kernel
theorem dX0_latestTimeOf_4 : decode cX0_latestTimeOf 4 = .ok (.iconst 1, 1) := by decide +kernel
theorem dX0_latestTimeOf_5 : decode cX0_latestTimeOf 5 = .ok (.isub, 1) := by decide +kernel
theorem dX0_latestTimeOf_6 : decode cX0_latestTimeOf 6 = .ok (.istore_n 2, 1) := by decide +kernel
theorem dX0_latestTimeOf_7 : decode cX0_latestTimeOf 7 = .ok (.iload_n 2, 1) := by decide +kernel
theorem dX0_latestTimeOf_8 : decode cX0_latestTimeOf 8 = .ok (.ifCond .lt 26, 3) := by decide +kernel
theorem dX0_latestTimeOf_11 : decode cX0_latestTimeOf 11 = .ok (.aload_n 0, 1) := by decide +kernel
theorem dX0_latestTimeOf_12 : decode cX0_latestTimeOf 12 = .ok (.getfield 34, 3) := by decide +kernel
theorem dX0_latestTimeOf_15 : decode cX0_latestTimeOf 15 = .ok (.iload_n 2, 1) := by decide +kernel
theorem dX0_latestTimeOf_16 : decode cX0_latestTimeOf 16 = .ok (.iaload, 1) := by decide +kernel
theorem dX0_latestTimeOf_17 : decode cX0_latestTimeOf 17 = .ok (.iload_n 1, 1) := by decide +kernel
theorem dX0_latestTimeOf_18 : decode cX0_latestTimeOf 18 = .ok (.if_icmp .ne 10, 3) := by decide +kernel
theorem dX0_latestTimeOf_21 : decode cX0_latestTimeOf 21 = .ok (.aload_n 0, 1) := by decide +kernel
theorem dX0_latestTimeOf_22 : decode cX0_latestTimeOf 22 = .ok (.getfield 31, 3) := by decide +kernel
theorem dX0_latestTimeOf_25 : decode cX0_latestTimeOf 25 = .ok (.iload_n 2, 1) := by decide +kernel
theorem dX0_latestTimeOf_26 : decode cX0_latestTimeOf 26 = .ok (.iaload, 1) := by decide +kernel
theorem dX0_latestTimeOf_27 : decode cX0_latestTimeOf 27 = .ok (.ireturn, 1) := by decide +kernel
theorem dX0_latestTimeOf_28 : decode cX0_latestTimeOf 28 = .ok (.iinc 2 (-1), 3) := by decide +kernel
theorem dX0_latestTimeOf_31 : decode cX0_latestTimeOf 31 = .ok (.goto (-24), 3) := by decide +kernel
theorem dX0_latestTimeOf_34 : decode cX0_latestTimeOf 34 = .ok (.iconst (-1), 1) := by decide +kernel
theorem dX0_latestTimeOf_35 : decode cX0_latestTimeOf 35 = .ok (.ireturn, 1) := by decide +kernel
theorem dX0_countHoaxes_0 : decode cX0_countHoaxes 0 = .ok (.iconst 0, 1) := by decide +kernel
theorem dX0_countHoaxes_1 : decode cX0_countHoaxes 1 = .ok (.istore_n 1, 1) := by decide +kernel
theorem dX0_countHoaxes_2 : decode cX0_countHoaxes 2 = .ok (.iconst 0, 1) := by decide +kernel
theorem dX0_countHoaxes_3 : decode cX0_countHoaxes 3 = .ok (.istore_n 2, 1) := by decide +kernel
theorem dX0_countHoaxes_4 : decode cX0_countHoaxes 4 = .ok (.iload_n 2, 1) := by decide +kernel
theorem dX0_countHoaxes_5 : decode cX0_countHoaxes 5 = .ok (.aload_n 0, 1) := by decide +kernel
theorem dX0_countHoaxes_6 : decode cX0_countHoaxes 6 = .ok (.getfield 9, 3) := by decide +kernel
theorem dX0_countHoaxes_9 : decode cX0_countHoaxes 9 = .ok (.if_icmp .ge 20, 3) := by decide +kernel
theorem dX0_countHoaxes_12 : decode cX0_countHoaxes 12 = .ok (.aload_n 0, 1) := by decide +kernel
theorem dX0_countHoaxes_13 : decode cX0_countHoaxes 13 = .ok (.iload_n 2, 1) := by decide +kernel
theorem dX0_countHoaxes_14 : decode cX0_countHoaxes 14 = .ok (.invokevirtual 50, 3) := by decide +kernel
theorem dX0_countHoaxes_17 : decode cX0_countHoaxes 17 = .ok (.ifCond .eq 6, 3) := by decide +kernel
theorem dX0_countHoaxes_20 : decode cX0_countHoaxes 20 = .ok (.iinc 1 1, 3) := by decide +kernel
theorem dX0_countHoaxes_23 : decode cX0_countHoaxes 23 = .ok (.iinc 2 1, 3) := by decide +kernel
theorem dX0_countHoaxes_26 : decode cX0_countHoaxes 26 = .ok (.goto (-22), 3) := by decide +kernel
theorem dX0_countHoaxes_29 : decode cX0_countHoaxes 29 = .ok (.iload_n 1, 1) := by decide +kernel
theorem dX0_countHoaxes_30 : decode cX0_countHoaxes 30 = .ok (.ireturn, 1) := by decide +kernel
theorem dX1_init_0 : decode cX1_init 0 = .ok (.aload_n 0, 1) := by decide +kernel
theorem dX1_init_1 : decode cX1_init 1 = .ok (.invokespecial 3, 3) := by decide +kernel
theorem dX1_init_4 : decode cX1_init 4 = .ok (.aload_n 0, 1) := by decide +kernel
theorem dX1_init_5 : decode cX1_init 5 = .ok (.iconst 0, 1) := by decide +kernel
theorem dX1_init_6 : decode cX1_init 6 = .ok (.putfield 9, 3) := by decide +kernel
theorem dX1_init_9 : decode cX1_init 9 = .ok (.aload_n 0, 1) := by decide +kernel
theorem dX1_init_10 : decode cX1_init 10 = .ok (.bipush 60, 2) := by decide +kernel
theorem dX1_init_12 : decode cX1_init 12 = .ok (.newarray .int, 2) := by decide +kernel
theorem dX1_init_14 : decode cX1_init 14 = .ok (.putfield 15, 3) := by decide +kernel
theorem dX1_init_17 : decode cX1_init 17 = .ok (.aload_n 0, 1) := by decide +kernel
theorem dX1_init_18 : decode cX1_init 18 = .ok (.bipush 60, 2) := by decide +kernel
theorem dX1_init_20 : decode cX1_init 20 = .ok (.newarray .int, 2) := by decide +kernel
theorem dX1_init_22 : decode cX1_init 22 = .ok (.putfield 19, 3) := by decide +kernel
theorem dX1_init_25 : decode cX1_init 25 = .ok (.aload_n 0, 1) := by decide +kernel
theorem dX1_init_26 : decode cX1_init 26 = .ok (.bipush 60, 2) := by decide +kernel
theorem dX1_init_28 : decode cX1_init 28 = .ok (.newarray .int, 2) := by decide +kernel
theorem dX1_init_30 : decode cX1_init 30 = .ok (.putfield 22, 3) := by decide +kernel
theorem dX1_init_33 : decode cX1_init 33 = .ok (.aload_n 0, 1) := by decide +kernel
theorem dX1_init_34 : decode cX1_init 34 = .ok (.bipush 60, 2) := by decide +kernel
theorem dX1_init_36 : decode cX1_init 36 = .ok (.newarray .int, 2) := by decide +kernel
theorem dX1_init_38 : decode cX1_init 38 = .ok (.putfield 25, 3) := by decide +kernel
theorem dX1_init_41 : decode cX1_init 41 = .ok (.aload_n 0, 1) := by decide +kernel
theorem dX1_init_42 : decode cX1_init 42 = .ok (.bipush 60, 2) := by decide +kernel
theorem dX1_init_44 : decode cX1_init 44 = .ok (.newarray .int, 2) := by decide +kernel
theorem dX1_init_46 : decode cX1_init 46 = .ok (.putfield 28, 3) := by decide +kernel
theorem dX1_init_49 : decode cX1_init 49 = .ok (.aload_n 0, 1) := by decide +kernel
theorem dX1_init_50 : decode cX1_init 50 = .ok (.bipush 60, 2) := by decide +kernel
theorem dX1_init_52 : decode cX1_init 52 = .ok (.newarray .int, 2) := by decide +kernel
theorem dX1_init_54 : decode cX1_init 54 = .ok (.putfield 31, 3) := by decide +kernel
theorem dX1_init_57 : decode cX1_init 57 = .ok (.return_, 1) := by decide +kernel
theorem dX1_begin_0 : decode cX1_begin 0 = .ok (.aload_n 0, 1) := by decide +kernel
theorem dX1_begin_1 : decode cX1_begin 1 = .ok (.getfield 15, 3) := by decide +kernel
theorem dX1_begin_4 : decode cX1_begin 4 = .ok (.aload_n 0, 1) := by decide +kernel
theorem dX1_begin_5 : decode cX1_begin 5 = .ok (.getfield 9, 3) := by decide +kernel
theorem dX1_begin_8 : decode cX1_begin 8 = .ok (.iconst 0, 1) := by decide +kernel
theorem dX1_begin_9 : decode cX1_begin 9 = .ok (.iastore, 1) := by decide +kernel
theorem dX1_begin_10 : decode cX1_begin 10 = .ok (.aload_n 0, 1) := by decide +kernel
theorem dX1_begin_11 : decode cX1_begin 11 = .ok (.getfield 19, 3) := by decide +kernel
theorem dX1_begin_14 : decode cX1_begin 14 = .ok (.aload_n 0, 1) := by decide +kernel
theorem dX1_begin_15 : decode cX1_begin 15 = .ok (.getfield 9, 3) := by decide +kernel
theorem dX1_begin_18 : decode cX1_begin 18 = .ok (.iload_n 1, 1) := by decide +kernel
theorem dX1_begin_19 : decode cX1_begin 19 = .ok (.iastore, 1) := by decide +kernel
theorem dX1_begin_20 : decode cX1_begin 20 = .ok (.aload_n 0, 1) := by decide +kernel
theorem dX1_begin_21 : decode cX1_begin 21 = .ok (.getfield 22, 3) := by decide +kernel
theorem dX1_begin_24 : decode cX1_begin 24 = .ok (.aload_n 0, 1) := by decide +kernel
theorem dX1_begin_25 : decode cX1_begin 25 = .ok (.getfield 9, 3) := by decide +kernel
theorem dX1_begin_28 : decode cX1_begin 28 = .ok (.iload_n 2, 1) := by decide +kernel
theorem dX1_begin_29 : decode cX1_begin 29 = .ok (.iastore, 1) := by decide +kernel
theorem dX1_begin_30 : decode cX1_begin 30 = .ok (.aload_n 0, 1) := by decide +kernel
theorem dX1_begin_31 : decode cX1_begin 31 = .ok (.getfield 25, 3) := by decide +kernel
theorem dX1_begin_34 : decode cX1_begin 34 = .ok (.aload_n 0, 1) := by decide +kernel
theorem dX1_begin_35 : decode cX1_begin 35 = .ok (.getfield 9, 3) := by decide +kernel
theorem dX1_begin_38 : decode cX1_begin 38 = .ok (.iconst (-1), 1) := by decide +kernel
theorem dX1_begin_39 : decode cX1_begin 39 = .ok (.iastore, 1) := by decide +kernel
theorem dX1_begin_40 : decode cX1_begin 40 = .ok (.aload_n 0, 1) := by decide +kernel
theorem dX1_begin_41 : decode cX1_begin 41 = .ok (.dup, 1) := by decide +kernel
theorem dX1_begin_42 : decode cX1_begin 42 = .ok (.getfield 9, 3) := by decide +kernel
theorem dX1_begin_45 : decode cX1_begin 45 = .ok (.iconst 1, 1) := by decide +kernel
theorem dX1_begin_46 : decode cX1_begin 46 = .ok (.iadd, 1) := by decide +kernel
theorem dX1_begin_47 : decode cX1_begin 47 = .ok (.putfield 9, 3) := by decide +kernel
theorem dX1_begin_50 : decode cX1_begin 50 = .ok (.aload_n 0, 1) := by decide +kernel
theorem dX1_begin_51 : decode cX1_begin 51 = .ok (.getfield 9, 3) := by decide +kernel
theorem dX1_begin_54 : decode cX1_begin 54 = .ok (.iconst 1, 1) := by decide +kernel
theorem dX1_begin_55 : decode cX1_begin 55 = .ok (.isub, 1) := by decide +kernel
theorem dX1_begin_56 : decode cX1_begin 56 = .ok (.ireturn, 1) := by decide +kernel
theorem dX1_isWatchedFor_0 : decode cX1_isWatchedFor 0 = .ok (.aload_n 0, 1) := by decide +kernel
theorem dX1_isWatchedFor_1 : decode cX1_isWatchedFor 1 = .ok (.getfield 15, 3) := by decide +kernel
theorem dX1_isWatchedFor_4 : decode cX1_isWatchedFor 4 = .ok (.iload_n 1, 1) := by decide +kernel
theorem dX1_isWatchedFor_5 : decode cX1_isWatchedFor 5 = .ok (.iaload, 1) := by decide +kernel
theorem dX1_isWatchedFor_6 : decode cX1_isWatchedFor 6 = .ok (.ifCond .ne 27, 3) := by decide +kernel
theorem dX1_isWatchedFor_9 : decode cX1_isWatchedFor 9 = .ok (.aload_n 0, 1) := by decide +kernel
theorem dX1_isWatchedFor_10 : decode cX1_isWatchedFor 10 = .ok (.getfield 19, 3) := by decide +kernel
theorem dX1_isWatchedFor_13 : decode cX1_isWatchedFor 13 = .ok (.iload_n 1, 1) := by decide +kernel
theorem dX1_isWatchedFor_14 : decode cX1_isWatchedFor 14 = .ok (.iaload, 1) := by decide +kernel
theorem dX1_isWatchedFor_15 : decode cX1_isWatchedFor 15 = .ok (.iload_n 2, 1) := by decide +kernel
theorem dX1_isWatchedFor_16 : decode cX1_isWatchedFor 16 = .ok (.if_icmp .ne 17, 3) := by decide +kernel
theorem dX1_isWatchedFor_19 : decode cX1_isWatchedFor 19 = .ok (.aload_n 0, 1) := by decide +kernel
theorem dX1_isWatchedFor_20 : decode cX1_isWatchedFor 20 = .ok (.getfield 25, 3) := by decide +kernel
theorem dX1_isWatchedFor_23 : decode cX1_isWatchedFor 23 = .ok (.iload_n 1, 1) := by decide +kernel
theorem dX1_isWatchedFor_24 : decode cX1_isWatchedFor 24 = .ok (.iaload, 1) := by decide +kernel
theorem dX1_isWatchedFor_25 : decode cX1_isWatchedFor 25 = .ok (.iconst (-1), 1) := by decide +kernel
theorem dX1_isWatchedFor_26 : decode cX1_isWatchedFor 26 = .ok (.if_icmp .eq 7, 3) := by decide +kernel
theorem dX1_isWatchedFor_29 : decode cX1_isWatchedFor 29 = .ok (.iconst 1, 1) := by decide +kernel
theorem dX1_isWatchedFor_30 : decode cX1_isWatchedFor 30 = .ok (.goto 4, 3) := by decide +kernel
theorem dX1_isWatchedFor_33 : decode cX1_isWatchedFor 33 = .ok (.iconst 0, 1) := by decide +kernel
theorem dX1_isWatchedFor_34 : decode cX1_isWatchedFor 34 = .ok (.ireturn, 1) := by decide +kernel
theorem dX1_countOpen_0 : decode cX1_countOpen 0 = .ok (.iconst 0, 1) := by decide +kernel
theorem dX1_countOpen_1 : decode cX1_countOpen 1 = .ok (.istore_n 1, 1) := by decide +kernel
theorem dX1_countOpen_2 : decode cX1_countOpen 2 = .ok (.iconst 0, 1) := by decide +kernel
theorem dX1_countOpen_3 : decode cX1_countOpen 3 = .ok (.istore_n 2, 1) := by decide +kernel
theorem dX1_countOpen_4 : decode cX1_countOpen 4 = .ok (.iload_n 2, 1) := by decide +kernel
theorem dX1_countOpen_5 : decode cX1_countOpen 5 = .ok (.aload_n 0, 1) := by decide +kernel
theorem dX1_countOpen_6 : decode cX1_countOpen 6 = .ok (.getfield 9, 3) := by decide +kernel
theorem dX1_countOpen_9 : decode cX1_countOpen 9 = .ok (.if_icmp .ge 21, 3) := by decide +kernel
theorem dX1_countOpen_12 : decode cX1_countOpen 12 = .ok (.aload_n 0, 1) := by decide +kernel
theorem dX1_countOpen_13 : decode cX1_countOpen 13 = .ok (.getfield 15, 3) := by decide +kernel
theorem dX1_countOpen_16 : decode cX1_countOpen 16 = .ok (.iload_n 2, 1) := by decide +kernel
theorem dX1_countOpen_17 : decode cX1_countOpen 17 = .ok (.iaload, 1) := by decide +kernel
theorem dX1_countOpen_18 : decode cX1_countOpen 18 = .ok (.ifCond .ne 6, 3) := by decide +kernel
theorem dX1_countOpen_21 : decode cX1_countOpen 21 = .ok (.iinc 1 1, 3) := by decide +kernel
theorem dX1_countOpen_24 : decode cX1_countOpen 24 = .ok (.iinc 2 1, 3) := by decide +kernel
theorem dX1_countOpen_27 : decode cX1_countOpen 27 = .ok (.goto (-23), 3) := by decide +kernel
theorem dX1_countOpen_30 : decode cX1_countOpen 30 = .ok (.iload_n 1, 1) := by decide +kernel
theorem dX1_countOpen_31 : decode cX1_countOpen 31 = .ok (.ireturn, 1) := by decide +kernel
theorem dX2_init_0 : decode cX2_init 0 = .ok (.aload_n 0, 1) := by decide +kernel
theorem dX2_init_1 : decode cX2_init 1 = .ok (.invokespecial 3, 3) := by decide +kernel
theorem dX2_init_4 : decode cX2_init 4 = .ok (.aload_n 0, 1) := by decide +kernel
theorem dX2_init_5 : decode cX2_init 5 = .ok (.bipush 8, 2) := by decide +kernel
theorem dX2_init_7 : decode cX2_init 7 = .ok (.newarray .int, 2) := by decide +kernel
theorem dX2_init_9 : decode cX2_init 9 = .ok (.putfield 9, 3) := by decide +kernel
theorem dX2_init_12 : decode cX2_init 12 = .ok (.aload_n 0, 1) := by decide +kernel
theorem dX2_init_13 : decode cX2_init 13 = .ok (.bipush 64, 2) := by decide +kernel
theorem dX2_init_15 : decode cX2_init 15 = .ok (.newarray .int, 2) := by decide +kernel
theorem dX2_init_17 : decode cX2_init 17 = .ok (.putfield 15, 3) := by decide +kernel
theorem dX2_init_20 : decode cX2_init 20 = .ok (.return_, 1) := by decide +kernel
theorem dX2_append_0 : decode cX2_append 0 = .ok (.aload_n 0, 1) := by decide +kernel
theorem dX2_append_1 : decode cX2_append 1 = .ok (.getfield 15, 3) := by decide +kernel
theorem dX2_append_4 : decode cX2_append 4 = .ok (.iload_n 1, 1) := by decide +kernel
theorem dX2_append_5 : decode cX2_append 5 = .ok (.bipush 8, 2) := by decide +kernel
theorem dX2_append_7 : decode cX2_append 7 = .ok (.imul, 1) := by decide +kernel
theorem dX2_append_8 : decode cX2_append 8 = .ok (.aload_n 0, 1) := by decide +kernel
