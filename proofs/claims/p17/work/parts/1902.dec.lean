theorem dX4_latestOfLine_18 : decode cX4_latestOfLine 18 = .ok (.getfield 232, 3) := by decide +kernel
theorem dX4_latestOfLine_21 : decode cX4_latestOfLine 21 = .ok (.iload_n 2, 1) := by decide +kernel
theorem dX4_latestOfLine_22 : decode cX4_latestOfLine 22 = .ok (.iaload, 1) := by decide +kernel
theorem dX4_latestOfLine_23 : decode cX4_latestOfLine 23 = .ok (.aload_n 0, 1) := by decide +kernel
theorem dX4_latestOfLine_24 : decode cX4_latestOfLine 24 = .ok (.getfield 26, 3) := by decide +kernel
theorem dX4_latestOfLine_27 : decode cX4_latestOfLine 27 = .ok (.getfield 232, 3) := by decide +kernel
theorem dX4_latestOfLine_30 : decode cX4_latestOfLine 30 = .ok (.iload_n 1, 1) := by decide +kernel
theorem dX4_latestOfLine_31 : decode cX4_latestOfLine 31 = .ok (.iaload, 1) := by decide +kernel
theorem dX4_latestOfLine_32 : decode cX4_latestOfLine 32 = .ok (.if_icmp .ne 26, 3) := by decide +kernel
theorem dX4_latestOfLine_35 : decode cX4_latestOfLine 35 = .ok (.aload_n 0, 1) := by decide +kernel
theorem dX4_latestOfLine_36 : decode cX4_latestOfLine 36 = .ok (.iload_n 2, 1) := by decide +kernel
theorem dX4_latestOfLine_37 : decode cX4_latestOfLine 37 = .ok (.invokevirtual 235, 3) := by decide +kernel
theorem dX4_latestOfLine_40 : decode cX4_latestOfLine 40 = .ok (.ifCond .eq 18, 3) := by decide +kernel
theorem dX4_latestOfLine_43 : decode cX4_latestOfLine 43 = .ok (.aload_n 0, 1) := by decide +kernel
theorem dX4_latestOfLine_44 : decode cX4_latestOfLine 44 = .ok (.iload_n 2, 1) := by decide +kernel
theorem dX4_latestOfLine_45 : decode cX4_latestOfLine 45 = .ok (.iload_n 1, 1) := by decide +kernel
theorem dX4_latestOfLine_46 : decode cX4_latestOfLine 46 = .ok (.invokevirtual 238, 3) := by decide +kernel
theorem dX4_latestOfLine_49 : decode cX4_latestOfLine 49 = .ok (.ifCond .eq 7, 3) := by decide +kernel
theorem dX4_latestOfLine_52 : decode cX4_latestOfLine 52 = .ok (.iload_n 2, 1) := by decide +kernel
theorem dX4_latestOfLine_53 : decode cX4_latestOfLine 53 = .ok (.goto 4, 3) := by decide +kernel
theorem dX4_latestOfLine_56 : decode cX4_latestOfLine 56 = .ok (.iconst (-1), 1) := by decide +kernel
theorem dX4_latestOfLine_57 : decode cX4_latestOfLine 57 = .ok (.ireturn, 1) := by decide +kernel
theorem dX4_latestOfLine_58 : decode cX4_latestOfLine 58 = .ok (.iinc 2 (-1), 3) := by decide +kernel
theorem dX4_latestOfLine_61 : decode cX4_latestOfLine 61 = .ok (.goto (-51), 3) := by decide +kernel
theorem dX4_latestOfLine_64 : decode cX4_latestOfLine 64 = .ok (.iconst (-1), 1) := by decide +kernel
theorem dX4_latestOfLine_65 : decode cX4_latestOfLine 65 = .ok (.ireturn, 1) := by decide +kernel
theorem dX4_firstOnStretch_0 : decode cX4_firstOnStretch 0 = .ok (.iconst 0, 1) := by decide +kernel
theorem dX4_firstOnStretch_1 : decode cX4_firstOnStretch 1 = .ok (.istore_n 2, 1) := by decide +kernel
theorem dX4_firstOnStretch_2 : decode cX4_firstOnStretch 2 = .ok (.iload_n 2, 1) := by decide +kernel
theorem dX4_firstOnStretch_3 : decode cX4_firstOnStretch 3 = .ok (.aload_n 0, 1) := by decide +kernel
theorem dX4_firstOnStretch_4 : decode cX4_firstOnStretch 4 = .ok (.getfield 33, 3) := by decide +kernel
theorem dX4_firstOnStretch_7 : decode cX4_firstOnStretch 7 = .ok (.getfield 94, 3) := by decide +kernel
theorem dX4_firstOnStretch_10 : decode cX4_firstOnStretch 10 = .ok (.if_icmp .ge 48, 3) := by decide +kernel
theorem dX4_firstOnStretch_13 : decode cX4_firstOnStretch 13 = .ok (.aload_n 0, 1) := by decide +kernel
theorem dX4_firstOnStretch_14 : decode cX4_firstOnStretch 14 = .ok (.getfield 33, 3) := by decide +kernel
theorem dX4_firstOnStretch_17 : decode cX4_firstOnStretch 17 = .ok (.iload_n 2, 1) := by decide +kernel
theorem dX4_firstOnStretch_18 : decode cX4_firstOnStretch 18 = .ok (.aload_n 0, 1) := by decide +kernel
theorem dX4_firstOnStretch_19 : decode cX4_firstOnStretch 19 = .ok (.getfield 26, 3) := by decide +kernel
theorem dX4_firstOnStretch_22 : decode cX4_firstOnStretch 22 = .ok (.getfield 111, 3) := by decide +kernel
theorem dX4_firstOnStretch_25 : decode cX4_firstOnStretch 25 = .ok (.iload_n 1, 1) := by decide +kernel
theorem dX4_firstOnStretch_26 : decode cX4_firstOnStretch 26 = .ok (.iaload, 1) := by decide +kernel
theorem dX4_firstOnStretch_27 : decode cX4_firstOnStretch 27 = .ok (.invokevirtual 241, 3) := by decide +kernel
theorem dX4_firstOnStretch_30 : decode cX4_firstOnStretch 30 = .ok (.ifCond .eq 22, 3) := by decide +kernel
theorem dX4_firstOnStretch_33 : decode cX4_firstOnStretch 33 = .ok (.aload_n 0, 1) := by decide +kernel
theorem dX4_firstOnStretch_34 : decode cX4_firstOnStretch 34 = .ok (.iload_n 1, 1) := by decide +kernel
theorem dX4_firstOnStretch_35 : decode cX4_firstOnStretch 35 = .ok (.iload_n 2, 1) := by decide +kernel
theorem dX4_firstOnStretch_36 : decode cX4_firstOnStretch 36 = .ok (.invokevirtual 244, 3) := by decide +kernel
theorem dX4_firstOnStretch_39 : decode cX4_firstOnStretch 39 = .ok (.ifCond .eq 13, 3) := by decide +kernel
theorem dX4_firstOnStretch_42 : decode cX4_firstOnStretch 42 = .ok (.aload_n 0, 1) := by decide +kernel
theorem dX4_firstOnStretch_43 : decode cX4_firstOnStretch 43 = .ok (.getfield 33, 3) := by decide +kernel
theorem dX4_firstOnStretch_46 : decode cX4_firstOnStretch 46 = .ok (.getfield 124, 3) := by decide +kernel
theorem dX4_firstOnStretch_49 : decode cX4_firstOnStretch 49 = .ok (.iload_n 2, 1) := by decide +kernel
theorem dX4_firstOnStretch_50 : decode cX4_firstOnStretch 50 = .ok (.iaload, 1) := by decide +kernel
theorem dX4_firstOnStretch_51 : decode cX4_firstOnStretch 51 = .ok (.ireturn, 1) := by decide +kernel
theorem dX4_firstOnStretch_52 : decode cX4_firstOnStretch 52 = .ok (.iinc 2 1, 3) := by decide +kernel
theorem dX4_firstOnStretch_55 : decode cX4_firstOnStretch 55 = .ok (.goto (-53), 3) := by decide +kernel
theorem dX4_firstOnStretch_58 : decode cX4_firstOnStretch 58 = .ok (.iconst (-1), 1) := by decide +kernel
theorem dX4_firstOnStretch_59 : decode cX4_firstOnStretch 59 = .ok (.ireturn, 1) := by decide +kernel
theorem dX4_isOnStretch_0 : decode cX4_isOnStretch 0 = .ok (.aload_n 0, 1) := by decide +kernel
theorem dX4_isOnStretch_1 : decode cX4_isOnStretch 1 = .ok (.getfield 33, 3) := by decide +kernel
theorem dX4_isOnStretch_4 : decode cX4_isOnStretch 4 = .ok (.getfield 134, 3) := by decide +kernel
theorem dX4_isOnStretch_7 : decode cX4_isOnStretch 7 = .ok (.iload_n 2, 1) := by decide +kernel
theorem dX4_isOnStretch_8 : decode cX4_isOnStretch 8 = .ok (.iaload, 1) := by decide +kernel
theorem dX4_isOnStretch_9 : decode cX4_isOnStretch 9 = .ok (.istore_n 3, 1) := by decide +kernel
theorem dX4_isOnStretch_10 : decode cX4_isOnStretch 10 = .ok (.aload_n 0, 1) := by decide +kernel
theorem dX4_isOnStretch_11 : decode cX4_isOnStretch 11 = .ok (.getfield 26, 3) := by decide +kernel
theorem dX4_isOnStretch_14 : decode cX4_isOnStretch 14 = .ok (.getfield 247, 3) := by decide +kernel
theorem dX4_isOnStretch_17 : decode cX4_isOnStretch 17 = .ok (.iload_n 1, 1) := by decide +kernel
theorem dX4_isOnStretch_18 : decode cX4_isOnStretch 18 = .ok (.iaload, 1) := by decide +kernel
theorem dX4_isOnStretch_19 : decode cX4_isOnStretch 19 = .ok (.istore 4, 2) := by decide +kernel
theorem dX4_isOnStretch_21 : decode cX4_isOnStretch 21 = .ok (.iload 4, 2) := by decide +kernel
theorem dX4_isOnStretch_23 : decode cX4_isOnStretch 23 = .ok (.iconst (-1), 1) := by decide +kernel
theorem dX4_isOnStretch_24 : decode cX4_isOnStretch 24 = .ok (.if_icmp .ne 22, 3) := by decide +kernel
theorem dX4_isOnStretch_27 : decode cX4_isOnStretch 27 = .ok (.aload_n 0, 1) := by decide +kernel
theorem dX4_isOnStretch_28 : decode cX4_isOnStretch 28 = .ok (.getfield 26, 3) := by decide +kernel
theorem dX4_isOnStretch_31 : decode cX4_isOnStretch 31 = .ok (.getfield 250, 3) := by decide +kernel
theorem dX4_isOnStretch_34 : decode cX4_isOnStretch 34 = .ok (.iload_n 1, 1) := by decide +kernel
theorem dX4_isOnStretch_35 : decode cX4_isOnStretch 35 = .ok (.iaload, 1) := by decide +kernel
theorem dX4_isOnStretch_36 : decode cX4_isOnStretch 36 = .ok (.iload_n 3, 1) := by decide +kernel
theorem dX4_isOnStretch_37 : decode cX4_isOnStretch 37 = .ok (.if_icmp .ne 7, 3) := by decide +kernel
theorem dX4_isOnStretch_40 : decode cX4_isOnStretch 40 = .ok (.iconst 1, 1) := by decide +kernel
theorem dX4_isOnStretch_41 : decode cX4_isOnStretch 41 = .ok (.goto 4, 3) := by decide +kernel
theorem dX4_isOnStretch_44 : decode cX4_isOnStretch 44 = .ok (.iconst 0, 1) := by decide +kernel
theorem dX4_isOnStretch_45 : decode cX4_isOnStretch 45 = .ok (.ireturn, 1) := by decide +kernel
theorem dX4_isOnStretch_46 : decode cX4_isOnStretch 46 = .ok (.aload_n 0, 1) := by decide +kernel
theorem dX4_isOnStretch_47 : decode cX4_isOnStretch 47 = .ok (.getfield 19, 3) := by decide +kernel
theorem dX4_isOnStretch_50 : decode cX4_isOnStretch 50 = .ok (.iload_n 3, 1) := by decide +kernel
theorem dX4_isOnStretch_51 : decode cX4_isOnStretch 51 = .ok (.aload_n 0, 1) := by decide +kernel
theorem dX4_isOnStretch_52 : decode cX4_isOnStretch 52 = .ok (.getfield 33, 3) := by decide +kernel
theorem dX4_isOnStretch_55 : decode cX4_isOnStretch 55 = .ok (.getfield 137, 3) := by decide +kernel
theorem dX4_isOnStretch_58 : decode cX4_isOnStretch 58 = .ok (.iload_n 2, 1) := by decide +kernel
theorem dX4_isOnStretch_59 : decode cX4_isOnStretch 59 = .ok (.iaload, 1) := by decide +kernel
theorem dX4_isOnStretch_60 : decode cX4_isOnStretch 60 = .ok (.aload_n 0, 1) := by decide +kernel
theorem dX4_isOnStretch_61 : decode cX4_isOnStretch 61 = .ok (.getfield 33, 3) := by decide +kernel
theorem dX4_isOnStretch_64 : decode cX4_isOnStretch 64 = .ok (.getfield 145, 3) := by decide +kernel
theorem dX4_isOnStretch_67 : decode cX4_isOnStretch 67 = .ok (.iload_n 2, 1) := by decide +kernel
theorem dX4_isOnStretch_68 : decode cX4_isOnStretch 68 = .ok (.iaload, 1) := by decide +kernel
theorem dX4_isOnStretch_69 : decode cX4_isOnStretch 69 = .ok (.iload 4, 2) := by decide +kernel
theorem dX4_isOnStretch_71 : decode cX4_isOnStretch 71 = .ok (.invokevirtual 251, 3) := by decide +kernel
theorem dX4_isOnStretch_74 : decode cX4_isOnStretch 74 = .ok (.ireturn, 1) := by decide +kernel
theorem dX4_nearestByPlace_0 : decode cX4_nearestByPlace 0 = .ok (.iconst (-1), 1) := by decide +kernel
theorem dX4_nearestByPlace_1 : decode cX4_nearestByPlace 1 = .ok (.istore_n 2, 1) := by decide +kernel
theorem dX4_nearestByPlace_2 : decode cX4_nearestByPlace 2 = .ok (.lconst 0, 1) := by decide +kernel
theorem dX4_nearestByPlace_3 : decode cX4_nearestByPlace 3 = .ok (.lstore_n 3, 1) := by decide +kernel
theorem dX4_nearestByPlace_4 : decode cX4_nearestByPlace 4 = .ok (.iconst 0, 1) := by decide +kernel
theorem dX4_nearestByPlace_5 : decode cX4_nearestByPlace 5 = .ok (.istore 5, 2) := by decide +kernel
theorem dX4_nearestByPlace_7 : decode cX4_nearestByPlace 7 = .ok (.iload 5, 2) := by decide +kernel
theorem dX4_nearestByPlace_9 : decode cX4_nearestByPlace 9 = .ok (.aload_n 0, 1) := by decide +kernel
theorem dX4_nearestByPlace_10 : decode cX4_nearestByPlace 10 = .ok (.getfield 26, 3) := by decide +kernel
theorem dX4_nearestByPlace_13 : decode cX4_nearestByPlace 13 = .ok (.getfield 80, 3) := by decide +kernel
theorem dX4_nearestByPlace_16 : decode cX4_nearestByPlace 16 = .ok (.if_icmp .ge 72, 3) := by decide +kernel
theorem dX4_nearestByPlace_19 : decode cX4_nearestByPlace 19 = .ok (.aload_n 0, 1) := by decide +kernel
theorem dX4_nearestByPlace_20 : decode cX4_nearestByPlace 20 = .ok (.iload 5, 2) := by decide +kernel
theorem dX4_nearestByPlace_22 : decode cX4_nearestByPlace 22 = .ok (.iload_n 1, 1) := by decide +kernel
theorem dX4_nearestByPlace_23 : decode cX4_nearestByPlace 23 = .ok (.invokevirtual 255, 3) := by decide +kernel
theorem dX4_nearestByPlace_26 : decode cX4_nearestByPlace 26 = .ok (.ifCond .eq 56, 3) := by decide +kernel
theorem dX4_nearestByPlace_29 : decode cX4_nearestByPlace 29 = .ok (.aload_n 0, 1) := by decide +kernel
theorem dX4_nearestByPlace_30 : decode cX4_nearestByPlace 30 = .ok (.iload 5, 2) := by decide +kernel
theorem dX4_nearestByPlace_32 : decode cX4_nearestByPlace 32 = .ok (.iload_n 1, 1) := by decide +kernel
theorem dX4_nearestByPlace_33 : decode cX4_nearestByPlace 33 = .ok (.invokevirtual 167, 3) := by decide +kernel
theorem dX4_nearestByPlace_36 : decode cX4_nearestByPlace 36 = .ok (.iconst 1, 1) := by decide +kernel
theorem dX4_nearestByPlace_37 : decode cX4_nearestByPlace 37 = .ok (.if_icmp .ne 45, 3) := by decide +kernel
theorem dX4_nearestByPlace_40 : decode cX4_nearestByPlace 40 = .ok (.aload_n 0, 1) := by decide +kernel
theorem dX4_nearestByPlace_41 : decode cX4_nearestByPlace 41 = .ok (.getfield 26, 3) := by decide +kernel
theorem dX4_nearestByPlace_44 : decode cX4_nearestByPlace 44 = .ok (.getfield 247, 3) := by decide +kernel
theorem dX4_nearestByPlace_47 : decode cX4_nearestByPlace 47 = .ok (.iload 5, 2) := by decide +kernel
theorem dX4_nearestByPlace_49 : decode cX4_nearestByPlace 49 = .ok (.iaload, 1) := by decide +kernel
theorem dX4_nearestByPlace_50 : decode cX4_nearestByPlace 50 = .ok (.aload_n 0, 1) := by decide +kernel
theorem dX4_nearestByPlace_51 : decode cX4_nearestByPlace 51 = .ok (.getfield 26, 3) := by decide +kernel
theorem dX4_nearestByPlace_54 : decode cX4_nearestByPlace 54 = .ok (.getfield 247, 3) := by decide +kernel
theorem dX4_nearestByPlace_57 : decode cX4_nearestByPlace 57 = .ok (.iload_n 1, 1) := by decide +kernel
theorem dX4_nearestByPlace_58 : decode cX4_nearestByPlace 58 = .ok (.iaload, 1) := by decide +kernel
theorem dX4_nearestByPlace_59 : decode cX4_nearestByPlace 59 = .ok (.invokestatic 258, 3) := by decide +kernel
theorem dX4_nearestByPlace_62 : decode cX4_nearestByPlace 62 = .ok (.lstore 6, 2) := by decide +kernel
theorem dX4_nearestByPlace_64 : decode cX4_nearestByPlace 64 = .ok (.iload_n 2, 1) := by decide +kernel
theorem dX4_nearestByPlace_65 : decode cX4_nearestByPlace 65 = .ok (.iconst (-1), 1) := by decide +kernel
theorem dX4_nearestByPlace_66 : decode cX4_nearestByPlace 66 = .ok (.if_icmp .eq 10, 3) := by decide +kernel
theorem dX4_nearestByPlace_69 : decode cX4_nearestByPlace 69 = .ok (.lload 6, 2) := by decide +kernel
theorem dX4_nearestByPlace_71 : decode cX4_nearestByPlace 71 = .ok (.lload_n 3, 1) := by decide +kernel
theorem dX4_nearestByPlace_72 : decode cX4_nearestByPlace 72 = .ok (.lcmp, 1) := by decide +kernel
theorem dX4_nearestByPlace_73 : decode cX4_nearestByPlace 73 = .ok (.ifCond .ge 9, 3) := by decide +kernel
theorem dX4_nearestByPlace_76 : decode cX4_nearestByPlace 76 = .ok (.iload 5, 2) := by decide +kernel
theorem dX4_nearestByPlace_78 : decode cX4_nearestByPlace 78 = .ok (.istore_n 2, 1) := by decide +kernel
theorem dX4_nearestByPlace_79 : decode cX4_nearestByPlace 79 = .ok (.lload 6, 2) := by decide +kernel
theorem dX4_nearestByPlace_81 : decode cX4_nearestByPlace 81 = .ok (.lstore_n 3, 1) := by decide +kernel
theorem dX4_nearestByPlace_82 : decode cX4_nearestByPlace 82 = .ok (.iinc 5 1, 3) := by decide +kernel
theorem dX4_nearestByPlace_85 : decode cX4_nearestByPlace 85 = .ok (.goto (-78), 3) := by decide +kernel
theorem dX4_nearestByPlace_88 : decode cX4_nearestByPlace 88 = .ok (.iload_n 2, 1) := by decide +kernel
theorem dX4_nearestByPlace_89 : decode cX4_nearestByPlace 89 = .ok (.ireturn, 1) := by decide +kernel
theorem dX4_greatestShare_0 : decode cX4_greatestShare 0 = .ok (.aload_n 0, 1) := by decide +kernel
theorem dX4_greatestShare_1 : decode cX4_greatestShare 1 = .ok (.getfield 26, 3) := by decide +kernel
theorem dX4_greatestShare_4 : decode cX4_greatestShare 4 = .ok (.getfield 111, 3) := by decide +kernel
theorem dX4_greatestShare_7 : decode cX4_greatestShare 7 = .ok (.iload_n 1, 1) := by decide +kernel
theorem dX4_greatestShare_8 : decode cX4_greatestShare 8 = .ok (.iaload, 1) := by decide +kernel
theorem dX4_greatestShare_9 : decode cX4_greatestShare 9 = .ok (.istore_n 2, 1) := by decide +kernel
theorem dX4_greatestShare_10 : decode cX4_greatestShare 10 = .ok (.iconst (-1), 1) := by decide +kernel
theorem dX4_greatestShare_11 : decode cX4_greatestShare 11 = .ok (.istore_n 3, 1) := by decide +kernel
theorem dX4_greatestShare_12 : decode cX4_greatestShare 12 = .ok (.iconst 0, 1) := by decide +kernel
theorem dX4_greatestShare_13 : decode cX4_greatestShare 13 = .ok (.istore 4, 2) := by decide +kernel
theorem dX4_greatestShare_15 : decode cX4_greatestShare 15 = .ok (.iconst 1, 1) := by decide +kernel
theorem dX4_greatestShare_16 : decode cX4_greatestShare 16 = .ok (.istore 5, 2) := by decide +kernel
theorem dX4_greatestShare_18 : decode cX4_greatestShare 18 = .ok (.iconst 0, 1) := by decide +kernel
theorem dX4_greatestShare_19 : decode cX4_greatestShare 19 = .ok (.istore 6, 2) := by decide +kernel
theorem dX4_greatestShare_21 : decode cX4_greatestShare 21 = .ok (.iload 6, 2) := by decide +kernel
theorem dX4_greatestShare_23 : decode cX4_greatestShare 23 = .ok (.aload_n 0, 1) := by decide +kernel
theorem dX4_greatestShare_24 : decode cX4_greatestShare 24 = .ok (.getfield 26, 3) := by decide +kernel
theorem dX4_greatestShare_27 : decode cX4_greatestShare 27 = .ok (.getfield 80, 3) := by decide +kernel
theorem dX4_greatestShare_30 : decode cX4_greatestShare 30 = .ok (.if_icmp .ge 119, 3) := by decide +kernel
theorem dX4_greatestShare_33 : decode cX4_greatestShare 33 = .ok (.aload_n 0, 1) := by decide +kernel
theorem dX4_greatestShare_34 : decode cX4_greatestShare 34 = .ok (.iload 6, 2) := by decide +kernel
theorem dX4_greatestShare_36 : decode cX4_greatestShare 36 = .ok (.iload_n 1, 1) := by decide +kernel
theorem dX4_greatestShare_37 : decode cX4_greatestShare 37 = .ok (.invokevirtual 255, 3) := by decide +kernel
theorem dX4_greatestShare_40 : decode cX4_greatestShare 40 = .ok (.ifCond .eq 103, 3) := by decide +kernel
theorem dX4_greatestShare_43 : decode cX4_greatestShare 43 = .ok (.aload_n 0, 1) := by decide +kernel
theorem dX4_greatestShare_44 : decode cX4_greatestShare 44 = .ok (.iload 6, 2) := by decide +kernel
theorem dX4_greatestShare_46 : decode cX4_greatestShare 46 = .ok (.iload_n 1, 1) := by decide +kernel
theorem dX4_greatestShare_47 : decode cX4_greatestShare 47 = .ok (.invokevirtual 167, 3) := by decide +kernel
theorem dX4_greatestShare_50 : decode cX4_greatestShare 50 = .ok (.iconst 2, 1) := by decide +kernel
theorem dX4_greatestShare_51 : decode cX4_greatestShare 51 = .ok (.if_icmp .ne 92, 3) := by decide +kernel
theorem dX4_greatestShare_54 : decode cX4_greatestShare 54 = .ok (.aload_n 0, 1) := by decide +kernel
theorem dX4_greatestShare_55 : decode cX4_greatestShare 55 = .ok (.getfield 12, 3) := by decide +kernel
theorem dX4_greatestShare_58 : decode cX4_greatestShare 58 = .ok (.iload_n 2, 1) := by decide +kernel
theorem dX4_greatestShare_59 : decode cX4_greatestShare 59 = .ok (.aload_n 0, 1) := by decide +kernel
theorem dX4_greatestShare_60 : decode cX4_greatestShare 60 = .ok (.getfield 26, 3) := by decide +kernel
theorem dX4_greatestShare_63 : decode cX4_greatestShare 63 = .ok (.getfield 154, 3) := by decide +kernel
theorem dX4_greatestShare_66 : decode cX4_greatestShare 66 = .ok (.iload 6, 2) := by decide +kernel
theorem dX4_greatestShare_68 : decode cX4_greatestShare 68 = .ok (.iaload, 1) := by decide +kernel
theorem dX4_greatestShare_69 : decode cX4_greatestShare 69 = .ok (.aload_n 0, 1) := by decide +kernel
theorem dX4_greatestShare_70 : decode cX4_greatestShare 70 = .ok (.getfield 26, 3) := by decide +kernel
theorem dX4_greatestShare_73 : decode cX4_greatestShare 73 = .ok (.getfield 154, 3) := by decide +kernel
theorem dX4_greatestShare_76 : decode cX4_greatestShare 76 = .ok (.iload_n 1, 1) := by decide +kernel
theorem dX4_greatestShare_77 : decode cX4_greatestShare 77 = .ok (.iaload, 1) := by decide +kernel
theorem dX4_greatestShare_78 : decode cX4_greatestShare 78 = .ok (.iand, 1) := by decide +kernel
theorem dX4_greatestShare_79 : decode cX4_greatestShare 79 = .ok (.invokevirtual 157, 3) := by decide +kernel
theorem dX4_greatestShare_82 : decode cX4_greatestShare 82 = .ok (.istore 7, 2) := by decide +kernel
theorem dX4_greatestShare_84 : decode cX4_greatestShare 84 = .ok (.aload_n 0, 1) := by decide +kernel
theorem dX4_greatestShare_85 : decode cX4_greatestShare 85 = .ok (.getfield 12, 3) := by decide +kernel
theorem dX4_greatestShare_88 : decode cX4_greatestShare 88 = .ok (.iload_n 2, 1) := by decide +kernel
theorem dX4_greatestShare_89 : decode cX4_greatestShare 89 = .ok (.aload_n 0, 1) := by decide +kernel
theorem dX4_greatestShare_90 : decode cX4_greatestShare 90 = .ok (.getfield 26, 3) := by decide +kernel
theorem dX4_greatestShare_93 : decode cX4_greatestShare 93 = .ok (.getfield 154, 3) := by decide +kernel
theorem dX4_greatestShare_96 : decode cX4_greatestShare 96 = .ok (.iload 6, 2) := by decide +kernel
theorem dX4_greatestShare_98 : decode cX4_greatestShare 98 = .ok (.iaload, 1) := by decide +kernel
theorem dX4_greatestShare_99 : decode cX4_greatestShare 99 = .ok (.aload_n 0, 1) := by decide +kernel
theorem dX4_greatestShare_100 : decode cX4_greatestShare 100 = .ok (.getfield 26, 3) := by decide +kernel
theorem dX4_greatestShare_103 : decode cX4_greatestShare 103 = .ok (.getfield 154, 3) := by decide +kernel
theorem dX4_greatestShare_106 : decode cX4_greatestShare 106 = .ok (.iload_n 1, 1) := by decide +kernel
theorem dX4_greatestShare_107 : decode cX4_greatestShare 107 = .ok (.iaload, 1) := by decide +kernel
theorem dX4_greatestShare_108 : decode cX4_greatestShare 108 = .ok (.ior, 1) := by decide +kernel
theorem dX4_greatestShare_109 : decode cX4_greatestShare 109 = .ok (.invokevirtual 157, 3) := by decide +kernel
theorem dX4_greatestShare_112 : decode cX4_greatestShare 112 = .ok (.istore 8, 2) := by decide +kernel
theorem dX4_greatestShare_114 : decode cX4_greatestShare 114 = .ok (.iload_n 3, 1) := by decide +kernel
theorem dX4_greatestShare_115 : decode cX4_greatestShare 115 = .ok (.iconst (-1), 1) := by decide +kernel
theorem dX4_greatestShare_116 : decode cX4_greatestShare 116 = .ok (.if_icmp .eq 16, 3) := by decide +kernel
theorem dX4_greatestShare_119 : decode cX4_greatestShare 119 = .ok (.iload 7, 2) := by decide +kernel
theorem dX4_greatestShare_121 : decode cX4_greatestShare 121 = .ok (.iload 5, 2) := by decide +kernel
theorem dX4_greatestShare_123 : decode cX4_greatestShare 123 = .ok (.imul, 1) := by decide +kernel
theorem dX4_greatestShare_124 : decode cX4_greatestShare 124 = .ok (.iload 4, 2) := by decide +kernel
theorem dX4_greatestShare_126 : decode cX4_greatestShare 126 = .ok (.iload 8, 2) := by decide +kernel
theorem dX4_greatestShare_128 : decode cX4_greatestShare 128 = .ok (.imul, 1) := by decide +kernel
theorem dX4_greatestShare_129 : decode cX4_greatestShare 129 = .ok (.if_icmp .le 14, 3) := by decide +kernel
theorem dX4_greatestShare_132 : decode cX4_greatestShare 132 = .ok (.iload 6, 2) := by decide +kernel
theorem dX4_greatestShare_134 : decode cX4_greatestShare 134 = .ok (.istore_n 3, 1) := by decide +kernel
theorem dX4_greatestShare_135 : decode cX4_greatestShare 135 = .ok (.iload 7, 2) := by decide +kernel
theorem dX4_greatestShare_137 : decode cX4_greatestShare 137 = .ok (.istore 4, 2) := by decide +kernel
theorem dX4_greatestShare_139 : decode cX4_greatestShare 139 = .ok (.iload 8, 2) := by decide +kernel
theorem dX4_greatestShare_141 : decode cX4_greatestShare 141 = .ok (.istore 5, 2) := by decide +kernel
theorem dX4_greatestShare_143 : decode cX4_greatestShare 143 = .ok (.iinc 6 1, 3) := by decide +kernel
theorem dX4_greatestShare_146 : decode cX4_greatestShare 146 = .ok (.goto (-125), 3) := by decide +kernel
theorem dX4_greatestShare_149 : decode cX4_greatestShare 149 = .ok (.iload_n 3, 1) := by decide +kernel
theorem dX4_greatestShare_150 : decode cX4_greatestShare 150 = .ok (.ireturn, 1) := by decide +kernel
theorem dX4_isCandidate_0 : decode cX4_isCandidate 0 = .ok (.aload_n 0, 1) := by decide +kernel
theorem dX4_isCandidate_1 : decode cX4_isCandidate 1 = .ok (.getfield 26, 3) := by decide +kernel
theorem dX4_isCandidate_4 : decode cX4_isCandidate 4 = .ok (.getfield 111, 3) := by decide +kernel
theorem dX4_isCandidate_7 : decode cX4_isCandidate 7 = .ok (.iload_n 1, 1) := by decide +kernel
theorem dX4_isCandidate_8 : decode cX4_isCandidate 8 = .ok (.iaload, 1) := by decide +kernel
theorem dX4_isCandidate_9 : decode cX4_isCandidate 9 = .ok (.aload_n 0, 1) := by decide +kernel
theorem dX4_isCandidate_10 : decode cX4_isCandidate 10 = .ok (.getfield 26, 3) := by decide +kernel
theorem dX4_isCandidate_13 : decode cX4_isCandidate 13 = .ok (.getfield 111, 3) := by decide +kernel
theorem dX4_isCandidate_16 : decode cX4_isCandidate 16 = .ok (.iload_n 2, 1) := by decide +kernel
theorem dX4_isCandidate_17 : decode cX4_isCandidate 17 = .ok (.iaload, 1) := by decide +kernel
theorem dX4_isCandidate_18 : decode cX4_isCandidate 18 = .ok (.if_icmp .ne 15, 3) := by decide +kernel
theorem dX4_isCandidate_21 : decode cX4_isCandidate 21 = .ok (.aload_n 0, 1) := by decide +kernel
theorem dX4_isCandidate_22 : decode cX4_isCandidate 22 = .ok (.iload_n 1, 1) := by decide +kernel
theorem dX4_isCandidate_23 : decode cX4_isCandidate 23 = .ok (.invokevirtual 235, 3) := by decide +kernel
theorem dX4_isCandidate_26 : decode cX4_isCandidate 26 = .ok (.ifCond .eq 7, 3) := by decide +kernel
theorem dX4_isCandidate_29 : decode cX4_isCandidate 29 = .ok (.iconst 1, 1) := by decide +kernel
theorem dX4_isCandidate_30 : decode cX4_isCandidate 30 = .ok (.goto 4, 3) := by decide +kernel
theorem dX4_isCandidate_33 : decode cX4_isCandidate 33 = .ok (.iconst 0, 1) := by decide +kernel
theorem dX4_isCandidate_34 : decode cX4_isCandidate 34 = .ok (.ireturn, 1) := by decide +kernel
theorem dX4_agreement_0 : decode cX4_agreement 0 = .ok (.aload_n 0, 1) := by decide +kernel
theorem dX4_agreement_1 : decode cX4_agreement 1 = .ok (.iload_n 1, 1) := by decide +kernel
theorem dX4_agreement_2 : decode cX4_agreement 2 = .ok (.iload_n 2, 1) := by decide +kernel
theorem dX4_agreement_3 : decode cX4_agreement 3 = .ok (.invokevirtual 238, 3) := by decide +kernel
theorem dX4_agreement_6 : decode cX4_agreement 6 = .ok (.ifCond .ne 5, 3) := by decide +kernel
theorem dX4_agreement_9 : decode cX4_agreement 9 = .ok (.iconst 0, 1) := by decide +kernel
theorem dX4_agreement_10 : decode cX4_agreement 10 = .ok (.ireturn, 1) := by decide +kernel
theorem dX4_agreement_11 : decode cX4_agreement 11 = .ok (.aload_n 0, 1) := by decide +kernel
theorem dX4_agreement_12 : decode cX4_agreement 12 = .ok (.getfield 26, 3) := by decide +kernel
theorem dX4_agreement_15 : decode cX4_agreement 15 = .ok (.getfield 111, 3) := by decide +kernel
theorem dX4_agreement_18 : decode cX4_agreement 18 = .ok (.iload_n 2, 1) := by decide +kernel
theorem dX4_agreement_19 : decode cX4_agreement 19 = .ok (.iaload, 1) := by decide +kernel
theorem dX4_agreement_20 : decode cX4_agreement 20 = .ok (.istore_n 3, 1) := by decide +kernel
theorem dX4_agreement_21 : decode cX4_agreement 21 = .ok (.aload_n 0, 1) := by decide +kernel
theorem dX4_agreement_22 : decode cX4_agreement 22 = .ok (.getfield 12, 3) := by decide +kernel
theorem dX4_agreement_25 : decode cX4_agreement 25 = .ok (.iload_n 3, 1) := by decide +kernel
theorem dX4_agreement_26 : decode cX4_agreement 26 = .ok (.aload_n 0, 1) := by decide +kernel
theorem dX4_agreement_27 : decode cX4_agreement 27 = .ok (.getfield 26, 3) := by decide +kernel
theorem dX4_agreement_30 : decode cX4_agreement 30 = .ok (.getfield 154, 3) := by decide +kernel
theorem dX4_agreement_33 : decode cX4_agreement 33 = .ok (.iload_n 1, 1) := by decide +kernel
theorem dX4_agreement_34 : decode cX4_agreement 34 = .ok (.iaload, 1) := by decide +kernel
theorem dX4_agreement_35 : decode cX4_agreement 35 = .ok (.aload_n 0, 1) := by decide +kernel
theorem dX4_agreement_36 : decode cX4_agreement 36 = .ok (.getfield 26, 3) := by decide +kernel
theorem dX4_agreement_39 : decode cX4_agreement 39 = .ok (.getfield 154, 3) := by decide +kernel
theorem dX4_agreement_42 : decode cX4_agreement 42 = .ok (.iload_n 2, 1) := by decide +kernel
theorem dX4_agreement_43 : decode cX4_agreement 43 = .ok (.iaload, 1) := by decide +kernel
theorem dX4_agreement_44 : decode cX4_agreement 44 = .ok (.ior, 1) := by decide +kernel
theorem dX4_agreement_45 : decode cX4_agreement 45 = .ok (.invokevirtual 157, 3) := by decide +kernel
theorem dX4_agreement_48 : decode cX4_agreement 48 = .ok (.istore 4, 2) := by decide +kernel
theorem dX4_agreement_50 : decode cX4_agreement 50 = .ok (.aload_n 0, 1) := by decide +kernel
theorem dX4_agreement_51 : decode cX4_agreement 51 = .ok (.getfield 12, 3) := by decide +kernel
theorem dX4_agreement_54 : decode cX4_agreement 54 = .ok (.iload_n 3, 1) := by decide +kernel
theorem dX4_agreement_55 : decode cX4_agreement 55 = .ok (.aload_n 0, 1) := by decide +kernel
theorem dX4_agreement_56 : decode cX4_agreement 56 = .ok (.getfield 26, 3) := by decide +kernel
theorem dX4_agreement_59 : decode cX4_agreement 59 = .ok (.getfield 154, 3) := by decide +kernel
theorem dX4_agreement_62 : decode cX4_agreement 62 = .ok (.iload_n 1, 1) := by decide +kernel
theorem dX4_agreement_63 : decode cX4_agreement 63 = .ok (.iaload, 1) := by decide +kernel
theorem dX4_agreement_64 : decode cX4_agreement 64 = .ok (.aload_n 0, 1) := by decide +kernel
theorem dX4_agreement_65 : decode cX4_agreement 65 = .ok (.getfield 26, 3) := by decide +kernel
theorem dX4_agreement_68 : decode cX4_agreement 68 = .ok (.getfield 154, 3) := by decide +kernel
theorem dX4_agreement_71 : decode cX4_agreement 71 = .ok (.iload_n 2, 1) := by decide +kernel
theorem dX4_agreement_72 : decode cX4_agreement 72 = .ok (.iaload, 1) := by decide +kernel
theorem dX4_agreement_73 : decode cX4_agreement 73 = .ok (.iand, 1) := by decide +kernel
theorem dX4_agreement_74 : decode cX4_agreement 74 = .ok (.invokevirtual 157, 3) := by decide +kernel
theorem dX4_agreement_77 : decode cX4_agreement 77 = .ok (.istore 5, 2) := by decide +kernel
theorem dX4_agreement_79 : decode cX4_agreement 79 = .ok (.iload 4, 2) := by decide +kernel
theorem dX4_agreement_81 : decode cX4_agreement 81 = .ok (.ifCond .le 7, 3) := by decide +kernel
theorem dX4_agreement_84 : decode cX4_agreement 84 = .ok (.iconst 1, 1) := by decide +kernel
theorem dX4_agreement_85 : decode cX4_agreement 85 = .ok (.goto 4, 3) := by decide +kernel
theorem dX4_agreement_88 : decode cX4_agreement 88 = .ok (.iconst 0, 1) := by decide +kernel
theorem dX4_agreement_89 : decode cX4_agreement 89 = .ok (.istore 6, 2) := by decide +kernel
theorem dX4_agreement_91 : decode cX4_agreement 91 = .ok (.iload 6, 2) := by decide +kernel
theorem dX4_agreement_93 : decode cX4_agreement 93 = .ok (.ifCond .eq 22, 3) := by decide +kernel
theorem dX4_agreement_96 : decode cX4_agreement 96 = .ok (.aload_n 0, 1) := by decide +kernel
theorem dX4_agreement_97 : decode cX4_agreement 97 = .ok (.getfield 12, 3) := by decide +kernel
theorem dX4_agreement_100 : decode cX4_agreement 100 = .ok (.iload_n 3, 1) := by decide +kernel
theorem dX4_agreement_101 : decode cX4_agreement 101 = .ok (.iload 5, 2) := by decide +kernel
theorem dX4_agreement_103 : decode cX4_agreement 103 = .ok (.iload 4, 2) := by decide +kernel
theorem dX4_agreement_105 : decode cX4_agreement 105 = .ok (.invokevirtual 262, 3) := by decide +kernel
theorem dX4_agreement_108 : decode cX4_agreement 108 = .ok (.ifCond .eq 7, 3) := by decide +kernel
theorem dX4_agreement_111 : decode cX4_agreement 111 = .ok (.iconst 1, 1) := by decide +kernel
theorem dX4_agreement_112 : decode cX4_agreement 112 = .ok (.goto 4, 3) := by decide +kernel
theorem dX4_agreement_115 : decode cX4_agreement 115 = .ok (.iconst 0, 1) := by decide +kernel
theorem dX4_agreement_116 : decode cX4_agreement 116 = .ok (.istore 7, 2) := by decide +kernel
theorem dX4_agreement_118 : decode cX4_agreement 118 = .ok (.aload_n 0, 1) := by decide +kernel
theorem dX4_agreement_119 : decode cX4_agreement 119 = .ok (.getfield 26, 3) := by decide +kernel
theorem dX4_agreement_122 : decode cX4_agreement 122 = .ok (.getfield 247, 3) := by decide +kernel
theorem dX4_agreement_125 : decode cX4_agreement 125 = .ok (.iload_n 1, 1) := by decide +kernel
theorem dX4_agreement_126 : decode cX4_agreement 126 = .ok (.iaload, 1) := by decide +kernel
theorem dX4_agreement_127 : decode cX4_agreement 127 = .ok (.iconst (-1), 1) := by decide +kernel
theorem dX4_agreement_128 : decode cX4_agreement 128 = .ok (.if_icmp .eq 16, 3) := by decide +kernel
theorem dX4_agreement_131 : decode cX4_agreement 131 = .ok (.aload_n 0, 1) := by decide +kernel
theorem dX4_agreement_132 : decode cX4_agreement 132 = .ok (.getfield 26, 3) := by decide +kernel
theorem dX4_agreement_135 : decode cX4_agreement 135 = .ok (.getfield 247, 3) := by decide +kernel
theorem dX4_agreement_138 : decode cX4_agreement 138 = .ok (.iload_n 2, 1) := by decide +kernel
theorem dX4_agreement_139 : decode cX4_agreement 139 = .ok (.iaload, 1) := by decide +kernel
theorem dX4_agreement_140 : decode cX4_agreement 140 = .ok (.iconst (-1), 1) := by decide +kernel
theorem dX4_agreement_141 : decode cX4_agreement 141 = .ok (.if_icmp .ne 14, 3) := by decide +kernel
theorem dX4_agreement_144 : decode cX4_agreement 144 = .ok (.iload 7, 2) := by decide +kernel
theorem dX4_agreement_146 : decode cX4_agreement 146 = .ok (.ifCond .eq 7, 3) := by decide +kernel
theorem dX4_agreement_149 : decode cX4_agreement 149 = .ok (.iconst 2, 1) := by decide +kernel
theorem dX4_agreement_150 : decode cX4_agreement 150 = .ok (.goto 4, 3) := by decide +kernel
theorem dX4_agreement_153 : decode cX4_agreement 153 = .ok (.iconst 0, 1) := by decide +kernel
theorem dX4_agreement_154 : decode cX4_agreement 154 = .ok (.ireturn, 1) := by decide +kernel
theorem dX4_agreement_155 : decode cX4_agreement 155 = .ok (.aload_n 0, 1) := by decide +kernel
theorem dX4_agreement_156 : decode cX4_agreement 156 = .ok (.getfield 26, 3) := by decide +kernel
theorem dX4_agreement_159 : decode cX4_agreement 159 = .ok (.getfield 247, 3) := by decide +kernel
theorem dX4_agreement_162 : decode cX4_agreement 162 = .ok (.iload_n 1, 1) := by decide +kernel
theorem dX4_agreement_163 : decode cX4_agreement 163 = .ok (.iaload, 1) := by decide +kernel
theorem dX4_agreement_164 : decode cX4_agreement 164 = .ok (.aload_n 0, 1) := by decide +kernel
theorem dX4_agreement_165 : decode cX4_agreement 165 = .ok (.getfield 26, 3) := by decide +kernel
theorem dX4_agreement_168 : decode cX4_agreement 168 = .ok (.getfield 247, 3) := by decide +kernel
theorem dX4_agreement_171 : decode cX4_agreement 171 = .ok (.iload_n 2, 1) := by decide +kernel
theorem dX4_agreement_172 : decode cX4_agreement 172 = .ok (.iaload, 1) := by decide +kernel
theorem dX4_agreement_173 : decode cX4_agreement 173 = .ok (.invokestatic 258, 3) := by decide +kernel
theorem dX4_agreement_176 : decode cX4_agreement 176 = .ok (.lstore 8, 2) := by decide +kernel
theorem dX4_agreement_178 : decode cX4_agreement 178 = .ok (.aload_n 0, 1) := by decide +kernel
theorem dX4_agreement_179 : decode cX4_agreement 179 = .ok (.getfield 12, 3) := by decide +kernel
theorem dX4_agreement_182 : decode cX4_agreement 182 = .ok (.getfield 49, 3) := by decide +kernel
theorem dX4_agreement_185 : decode cX4_agreement 185 = .ok (.iload_n 3, 1) := by decide +kernel
theorem dX4_agreement_186 : decode cX4_agreement 186 = .ok (.iaload, 1) := by decide +kernel
theorem dX4_agreement_187 : decode cX4_agreement 187 = .ok (.i2l, 1) := by decide +kernel
theorem dX4_agreement_188 : decode cX4_agreement 188 = .ok (.aload_n 0, 1) := by decide +kernel
theorem dX4_agreement_189 : decode cX4_agreement 189 = .ok (.getfield 12, 3) := by decide +kernel
theorem dX4_agreement_192 : decode cX4_agreement 192 = .ok (.getfield 49, 3) := by decide +kernel
theorem dX4_agreement_195 : decode cX4_agreement 195 = .ok (.iload_n 3, 1) := by decide +kernel
theorem dX4_agreement_196 : decode cX4_agreement 196 = .ok (.iaload, 1) := by decide +kernel
theorem dX4_agreement_197 : decode cX4_agreement 197 = .ok (.i2l, 1) := by decide +kernel
theorem dX4_agreement_198 : decode cX4_agreement 198 = .ok (.lmul, 1) := by decide +kernel
theorem dX4_agreement_199 : decode cX4_agreement 199 = .ok (.lstore 10, 2) := by decide +kernel
theorem dX4_agreement_201 : decode cX4_agreement 201 = .ok (.iload 6, 2) := by decide +kernel
theorem dX4_agreement_203 : decode cX4_agreement 203 = .ok (.ifCond .eq 24, 3) := by decide +kernel
theorem dX4_agreement_206 : decode cX4_agreement 206 = .ok (.iload 7, 2) := by decide +kernel
theorem dX4_agreement_208 : decode cX4_agreement 208 = .ok (.ifCond .eq 15, 3) := by decide +kernel
theorem dX4_agreement_211 : decode cX4_agreement 211 = .ok (.lload 8, 2) := by decide +kernel
theorem dX4_agreement_213 : decode cX4_agreement 213 = .ok (.lload 10, 2) := by decide +kernel
theorem dX4_agreement_215 : decode cX4_agreement 215 = .ok (.lcmp, 1) := by decide +kernel
theorem dX4_agreement_216 : decode cX4_agreement 216 = .ok (.ifCond .gt 7, 3) := by decide +kernel
theorem dX4_agreement_219 : decode cX4_agreement 219 = .ok (.iconst 1, 1) := by decide +kernel
theorem dX4_agreement_220 : decode cX4_agreement 220 = .ok (.goto 24, 3) := by decide +kernel
theorem dX4_agreement_223 : decode cX4_agreement 223 = .ok (.iconst 0, 1) := by decide +kernel
theorem dX4_agreement_224 : decode cX4_agreement 224 = .ok (.goto 20, 3) := by decide +kernel
theorem dX4_agreement_227 : decode cX4_agreement 227 = .ok (.ldc2_w 265, 3) := by decide +kernel
theorem dX4_agreement_230 : decode cX4_agreement 230 = .ok (.lload 8, 2) := by decide +kernel
theorem dX4_agreement_232 : decode cX4_agreement 232 = .ok (.lmul, 1) := by decide +kernel
theorem dX4_agreement_233 : decode cX4_agreement 233 = .ok (.lload 10, 2) := by decide +kernel
theorem dX4_agreement_235 : decode cX4_agreement 235 = .ok (.lcmp, 1) := by decide +kernel
theorem dX4_agreement_236 : decode cX4_agreement 236 = .ok (.ifCond .gt 7, 3) := by decide +kernel
theorem dX4_agreement_239 : decode cX4_agreement 239 = .ok (.iconst 1, 1) := by decide +kernel
theorem dX4_agreement_240 : decode cX4_agreement 240 = .ok (.goto 4, 3) := by decide +kernel
theorem dX4_agreement_243 : decode cX4_agreement 243 = .ok (.iconst 0, 1) := by decide +kernel
theorem dX4_agreement_244 : decode cX4_agreement 244 = .ok (.istore 12, 2) := by decide +kernel
theorem dX4_agreement_246 : decode cX4_agreement 246 = .ok (.iload 12, 2) := by decide +kernel
theorem dX4_agreement_248 : decode cX4_agreement 248 = .ok (.ifCond .eq 7, 3) := by decide +kernel
theorem dX4_agreement_251 : decode cX4_agreement 251 = .ok (.iconst 1, 1) := by decide +kernel
theorem dX4_agreement_252 : decode cX4_agreement 252 = .ok (.goto 4, 3) := by decide +kernel
theorem dX4_agreement_255 : decode cX4_agreement 255 = .ok (.iconst 0, 1) := by decide +kernel
theorem dX4_agreement_256 : decode cX4_agreement 256 = .ok (.ireturn, 1) := by decide +kernel
theorem dX4_isWithinSpan_0 : decode cX4_isWithinSpan 0 = .ok (.aload_n 0, 1) := by decide +kernel
theorem dX4_isWithinSpan_1 : decode cX4_isWithinSpan 1 = .ok (.getfield 26, 3) := by decide +kernel
theorem dX4_isWithinSpan_4 : decode cX4_isWithinSpan 4 = .ok (.getfield 267, 3) := by decide +kernel
theorem dX4_isWithinSpan_7 : decode cX4_isWithinSpan 7 = .ok (.iload_n 2, 1) := by decide +kernel
theorem dX4_isWithinSpan_8 : decode cX4_isWithinSpan 8 = .ok (.iaload, 1) := by decide +kernel
theorem dX4_isWithinSpan_9 : decode cX4_isWithinSpan 9 = .ok (.aload_n 0, 1) := by decide +kernel
theorem dX4_isWithinSpan_10 : decode cX4_isWithinSpan 10 = .ok (.getfield 26, 3) := by decide +kernel
theorem dX4_isWithinSpan_13 : decode cX4_isWithinSpan 13 = .ok (.getfield 267, 3) := by decide +kernel
theorem dX4_isWithinSpan_16 : decode cX4_isWithinSpan 16 = .ok (.iload_n 1, 1) := by decide +kernel
theorem dX4_isWithinSpan_17 : decode cX4_isWithinSpan 17 = .ok (.iaload, 1) := by decide +kernel
theorem dX4_isWithinSpan_18 : decode cX4_isWithinSpan 18 = .ok (.isub, 1) := by decide +kernel
theorem dX4_isWithinSpan_19 : decode cX4_isWithinSpan 19 = .ok (.aload_n 0, 1) := by decide +kernel
theorem dX4_isWithinSpan_20 : decode cX4_isWithinSpan 20 = .ok (.getfield 12, 3) := by decide +kernel
theorem dX4_isWithinSpan_23 : decode cX4_isWithinSpan 23 = .ok (.getfield 53, 3) := by decide +kernel
theorem dX4_isWithinSpan_26 : decode cX4_isWithinSpan 26 = .ok (.aload_n 0, 1) := by decide +kernel
theorem dX4_isWithinSpan_27 : decode cX4_isWithinSpan 27 = .ok (.getfield 26, 3) := by decide +kernel
theorem dX4_isWithinSpan_30 : decode cX4_isWithinSpan 30 = .ok (.getfield 111, 3) := by decide +kernel
theorem dX4_isWithinSpan_33 : decode cX4_isWithinSpan 33 = .ok (.iload_n 2, 1) := by decide +kernel
theorem dX4_isWithinSpan_34 : decode cX4_isWithinSpan 34 = .ok (.iaload, 1) := by decide +kernel
theorem dX4_isWithinSpan_35 : decode cX4_isWithinSpan 35 = .ok (.iaload, 1) := by decide +kernel
theorem dX4_isWithinSpan_36 : decode cX4_isWithinSpan 36 = .ok (.if_icmp .gt 7, 3) := by decide +kernel
theorem dX4_isWithinSpan_39 : decode cX4_isWithinSpan 39 = .ok (.iconst 1, 1) := by decide +kernel
theorem dX4_isWithinSpan_40 : decode cX4_isWithinSpan 40 = .ok (.goto 4, 3) := by decide +kernel
theorem dX4_isWithinSpan_43 : decode cX4_isWithinSpan 43 = .ok (.iconst 0, 1) := by decide +kernel
theorem dX4_isWithinSpan_44 : decode cX4_isWithinSpan 44 = .ok (.ireturn, 1) := by decide +kernel
theorem dX4_eastOf_0 : decode cX4_eastOf 0 = .ok (.iload_n 0, 1) := by decide +kernel
theorem dX4_eastOf_1 : decode cX4_eastOf 1 = .ok (.sipush 10000, 3) := by decide +kernel
theorem dX4_eastOf_4 : decode cX4_eastOf 4 = .ok (.idiv, 1) := by decide +kernel
theorem dX4_eastOf_5 : decode cX4_eastOf 5 = .ok (.ireturn, 1) := by decide +kernel
theorem dX4_northOf_0 : decode cX4_northOf 0 = .ok (.iload_n 0, 1) := by decide +kernel
theorem dX4_northOf_1 : decode cX4_northOf 1 = .ok (.sipush 10000, 3) := by decide +kernel
theorem dX4_northOf_4 : decode cX4_northOf 4 = .ok (.irem, 1) := by decide +kernel
theorem dX4_northOf_5 : decode cX4_northOf 5 = .ok (.ireturn, 1) := by decide +kernel
theorem dX4_squareBetween_0 : decode cX4_squareBetween 0 = .ok (.iload_n 0, 1) := by decide +kernel
theorem dX4_squareBetween_1 : decode cX4_squareBetween 1 = .ok (.invokestatic 270, 3) := by decide +kernel
theorem dX4_squareBetween_4 : decode cX4_squareBetween 4 = .ok (.iload_n 1, 1) := by decide +kernel
theorem dX4_squareBetween_5 : decode cX4_squareBetween 5 = .ok (.invokestatic 270, 3) := by decide +kernel
theorem dX4_squareBetween_8 : decode cX4_squareBetween 8 = .ok (.isub, 1) := by decide +kernel
theorem dX4_squareBetween_9 : decode cX4_squareBetween 9 = .ok (.i2l, 1) := by decide +kernel
theorem dX4_squareBetween_10 : decode cX4_squareBetween 10 = .ok (.lstore_n 2, 1) := by decide +kernel
theorem dX4_squareBetween_11 : decode cX4_squareBetween 11 = .ok (.iload_n 0, 1) := by decide +kernel
theorem dX4_squareBetween_12 : decode cX4_squareBetween 12 = .ok (.invokestatic 273, 3) := by decide +kernel
theorem dX4_squareBetween_15 : decode cX4_squareBetween 15 = .ok (.iload_n 1, 1) := by decide +kernel
theorem dX4_squareBetween_16 : decode cX4_squareBetween 16 = .ok (.invokestatic 273, 3) := by decide +kernel
theorem dX4_squareBetween_19 : decode cX4_squareBetween 19 = .ok (.isub, 1) := by decide +kernel
theorem dX4_squareBetween_20 : decode cX4_squareBetween 20 = .ok (.i2l, 1) := by decide +kernel
theorem dX4_squareBetween_21 : decode cX4_squareBetween 21 = .ok (.lstore 4, 2) := by decide +kernel
theorem dX4_squareBetween_23 : decode cX4_squareBetween 23 = .ok (.lload_n 2, 1) := by decide +kernel
theorem dX4_squareBetween_24 : decode cX4_squareBetween 24 = .ok (.lload_n 2, 1) := by decide +kernel
theorem dX4_squareBetween_25 : decode cX4_squareBetween 25 = .ok (.lmul, 1) := by decide +kernel
theorem dX4_squareBetween_26 : decode cX4_squareBetween 26 = .ok (.lload 4, 2) := by decide +kernel
theorem dX4_squareBetween_28 : decode cX4_squareBetween 28 = .ok (.lload 4, 2) := by decide +kernel
theorem dX4_squareBetween_30 : decode cX4_squareBetween 30 = .ok (.lmul, 1) := by decide +kernel
theorem dX4_squareBetween_31 : decode cX4_squareBetween 31 = .ok (.ladd, 1) := by decide +kernel
theorem dX4_squareBetween_32 : decode cX4_squareBetween 32 = .ok (.lreturn, 1) := by decide +kernel
theorem dX6_init_0 : decode cX6_init 0 = .ok (.aload_n 0, 1) := by decide +kernel
theorem dX6_init_1 : decode cX6_init 1 = .ok (.invokespecial 1, 3) := by decide +kernel
theorem dX6_init_4 : decode cX6_init 4 = .ok (.aload_n 0, 1) := by decide +kernel
theorem dX6_init_5 : decode cX6_init 5 = .ok (.bipush 8, 2) := by decide +kernel
theorem dX6_init_7 : decode cX6_init 7 = .ok (.newarray .int, 2) := by decide +kernel
theorem dX6_init_9 : decode cX6_init 9 = .ok (.dup, 1) := by decide +kernel
theorem dX6_init_10 : decode cX6_init 10 = .ok (.iconst 0, 1) := by decide +kernel
