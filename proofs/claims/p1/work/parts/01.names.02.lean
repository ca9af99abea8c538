theorem dX2_search_70 : decode cX2_search 70 = .ok (.istore 5, 2) := by decide +kernel
theorem dX2_search_72 : decode cX2_search 72 = .ok (.iinc 6 1, 3) := by decide +kernel
theorem dX2_search_75 : decode cX2_search 75 = .ok (.goto (-68), 3) := by decide +kernel
theorem dX2_search_78 : decode cX2_search 78 = .ok (.iload 5, 2) := by decide +kernel
theorem dX2_search_80 : decode cX2_search 80 = .ok (.ireturn, 1) := by decide +kernel
theorem dX2_cornersWithChosen_0 : decode cX2_cornersWithChosen 0 = .ok (.aload_n 0, 1) := by decide +kernel
theorem dX2_cornersWithChosen_1 : decode cX2_cornersWithChosen 1 = .ok (.getfield 14, 3) := by decide +kernel
theorem dX2_cornersWithChosen_4 : decode cX2_cornersWithChosen 4 = .ok (.aload_n 0, 1) := by decide +kernel
theorem dX2_cornersWithChosen_5 : decode cX2_cornersWithChosen 5 = .ok (.getfield 33, 3) := by decide +kernel
theorem dX2_cornersWithChosen_8 : decode cX2_cornersWithChosen 8 = .ok (.getfield 63, 3) := by decide +kernel
theorem dX2_cornersWithChosen_11 : decode cX2_cornersWithChosen 11 = .ok (.invokevirtual 66, 3) := by decide +kernel
theorem dX2_cornersWithChosen_14 : decode cX2_cornersWithChosen 14 = .ok (.iconst 0, 1) := by decide +kernel
theorem dX2_cornersWithChosen_15 : decode cX2_cornersWithChosen 15 = .ok (.istore_n 2, 1) := by decide +kernel
theorem dX2_cornersWithChosen_16 : decode cX2_cornersWithChosen 16 = .ok (.iload_n 2, 1) := by decide +kernel
theorem dX2_cornersWithChosen_17 : decode cX2_cornersWithChosen 17 = .ok (.iload_n 1, 1) := by decide +kernel
theorem dX2_cornersWithChosen_18 : decode cX2_cornersWithChosen 18 = .ok (.if_icmp .ge 38, 3) := by decide +kernel
theorem dX2_cornersWithChosen_21 : decode cX2_cornersWithChosen 21 = .ok (.aload_n 0, 1) := by decide +kernel
theorem dX2_cornersWithChosen_22 : decode cX2_cornersWithChosen 22 = .ok (.getfield 14, 3) := by decide +kernel
theorem dX2_cornersWithChosen_25 : decode cX2_cornersWithChosen 25 = .ok (.aload_n 0, 1) := by decide +kernel
theorem dX2_cornersWithChosen_26 : decode cX2_cornersWithChosen 26 = .ok (.getfield 24, 3) := by decide +kernel
theorem dX2_cornersWithChosen_29 : decode cX2_cornersWithChosen 29 = .ok (.aload_n 0, 1) := by decide +kernel
theorem dX2_cornersWithChosen_30 : decode cX2_cornersWithChosen 30 = .ok (.getfield 30, 3) := by decide +kernel
theorem dX2_cornersWithChosen_33 : decode cX2_cornersWithChosen 33 = .ok (.iload_n 2, 1) := by decide +kernel
theorem dX2_cornersWithChosen_34 : decode cX2_cornersWithChosen 34 = .ok (.iaload, 1) := by decide +kernel
theorem dX2_cornersWithChosen_35 : decode cX2_cornersWithChosen 35 = .ok (.iaload, 1) := by decide +kernel
theorem dX2_cornersWithChosen_36 : decode cX2_cornersWithChosen 36 = .ok (.aload_n 0, 1) := by decide +kernel
theorem dX2_cornersWithChosen_37 : decode cX2_cornersWithChosen 37 = .ok (.getfield 27, 3) := by decide +kernel
theorem dX2_cornersWithChosen_40 : decode cX2_cornersWithChosen 40 = .ok (.aload_n 0, 1) := by decide +kernel
theorem dX2_cornersWithChosen_41 : decode cX2_cornersWithChosen 41 = .ok (.getfield 30, 3) := by decide +kernel
theorem dX2_cornersWithChosen_44 : decode cX2_cornersWithChosen 44 = .ok (.iload_n 2, 1) := by decide +kernel
theorem dX2_cornersWithChosen_45 : decode cX2_cornersWithChosen 45 = .ok (.iaload, 1) := by decide +kernel
theorem dX2_cornersWithChosen_46 : decode cX2_cornersWithChosen 46 = .ok (.iaload, 1) := by decide +kernel
theorem dX2_cornersWithChosen_47 : decode cX2_cornersWithChosen 47 = .ok (.invokevirtual 70, 3) := by decide +kernel
theorem dX2_cornersWithChosen_50 : decode cX2_cornersWithChosen 50 = .ok (.iinc 2 1, 3) := by decide +kernel
theorem dX2_cornersWithChosen_53 : decode cX2_cornersWithChosen 53 = .ok (.goto (-37), 3) := by decide +kernel
theorem dX2_cornersWithChosen_56 : decode cX2_cornersWithChosen 56 = .ok (.aload_n 0, 1) := by decide +kernel
theorem dX2_cornersWithChosen_57 : decode cX2_cornersWithChosen 57 = .ok (.getfield 33, 3) := by decide +kernel
theorem dX2_cornersWithChosen_60 : decode cX2_cornersWithChosen 60 = .ok (.getfield 73, 3) := by decide +kernel
theorem dX2_cornersWithChosen_63 : decode cX2_cornersWithChosen 63 = .ok (.aload_n 0, 1) := by decide +kernel
theorem dX2_cornersWithChosen_64 : decode cX2_cornersWithChosen 64 = .ok (.getfield 14, 3) := by decide +kernel
theorem dX2_cornersWithChosen_67 : decode cX2_cornersWithChosen 67 = .ok (.invokevirtual 77, 3) := by decide +kernel
theorem dX2_cornersWithChosen_70 : decode cX2_cornersWithChosen 70 = .ok (.ifCond .eq 13, 3) := by decide +kernel
theorem dX2_cornersWithChosen_73 : decode cX2_cornersWithChosen 73 = .ok (.aload_n 0, 1) := by decide +kernel
theorem dX2_cornersWithChosen_74 : decode cX2_cornersWithChosen 74 = .ok (.getfield 33, 3) := by decide +kernel
theorem dX2_cornersWithChosen_77 : decode cX2_cornersWithChosen 77 = .ok (.getfield 86, 3) := by decide +kernel
theorem dX2_cornersWithChosen_80 : decode cX2_cornersWithChosen 80 = .ok (.goto 10, 3) := by decide +kernel
theorem dX2_cornersWithChosen_83 : decode cX2_cornersWithChosen 83 = .ok (.aload_n 0, 1) := by decide +kernel
theorem dX2_cornersWithChosen_84 : decode cX2_cornersWithChosen 84 = .ok (.getfield 14, 3) := by decide +kernel
theorem dX2_cornersWithChosen_87 : decode cX2_cornersWithChosen 87 = .ok (.invokevirtual 109, 3) := by decide +kernel
theorem dX2_cornersWithChosen_90 : decode cX2_cornersWithChosen 90 = .ok (.ireturn, 1) := by decide +kernel
theorem dX3_init_0 : decode cX3_init 0 = .ok (.aload_n 0, 1) := by decide +kernel
theorem dX3_init_1 : decode cX3_init 1 = .ok (.invokespecial 3, 3) := by decide +kernel
theorem dX3_init_4 : decode cX3_init 4 = .ok (.aload_n 0, 1) := by decide +kernel
theorem dX3_init_5 : decode cX3_init 5 = .ok (.new 9, 3) := by decide +kernel
theorem dX3_init_8 : decode cX3_init 8 = .ok (.dup, 1) := by decide +kernel
theorem dX3_init_9 : decode cX3_init 9 = .ok (.sipush 1800, 3) := by decide +kernel
theorem dX3_init_12 : decode cX3_init 12 = .ok (.sipush 300, 3) := by decide +kernel
theorem dX3_init_15 : decode cX3_init 15 = .ok (.invokespecial 11, 3) := by decide +kernel
theorem dX3_init_18 : decode cX3_init 18 = .ok (.putfield 14, 3) := by decide +kernel
theorem dX3_init_21 : decode cX3_init 21 = .ok (.aload_n 0, 1) := by decide +kernel
theorem dX3_init_22 : decode cX3_init 22 = .ok (.new 20, 3) := by decide +kernel
theorem dX3_init_25 : decode cX3_init 25 = .ok (.dup, 1) := by decide +kernel
theorem dX3_init_26 : decode cX3_init 26 = .ok (.sipush 300, 3) := by decide +kernel
theorem dX3_init_29 : decode cX3_init 29 = .ok (.invokespecial 22, 3) := by decide +kernel
theorem dX3_init_32 : decode cX3_init 32 = .ok (.putfield 25, 3) := by decide +kernel
theorem dX3_init_35 : decode cX3_init 35 = .ok (.aload_n 0, 1) := by decide +kernel
theorem dX3_init_36 : decode cX3_init 36 = .ok (.sipush 300, 3) := by decide +kernel
theorem dX3_init_39 : decode cX3_init 39 = .ok (.newarray .int, 2) := by decide +kernel
theorem dX3_init_41 : decode cX3_init 41 = .ok (.putfield 29, 3) := by decide +kernel
theorem dX3_init_44 : decode cX3_init 44 = .ok (.return_, 1) := by decide +kernel
theorem dX3_tell_0 : decode cX3_tell 0 = .ok (.aload_n 0, 1) := by decide +kernel
theorem dX3_tell_1 : decode cX3_tell 1 = .ok (.getfield 14, 3) := by decide +kernel
theorem dX3_tell_4 : decode cX3_tell 4 = .ok (.invokevirtual 33, 3) := by decide +kernel
theorem dX3_tell_7 : decode cX3_tell 7 = .ok (.aload_n 0, 1) := by decide +kernel
theorem dX3_tell_8 : decode cX3_tell 8 = .ok (.getfield 25, 3) := by decide +kernel
theorem dX3_tell_11 : decode cX3_tell 11 = .ok (.invokevirtual 36, 3) := by decide +kernel
theorem dX3_tell_14 : decode cX3_tell 14 = .ok (.iconst 0, 1) := by decide +kernel
theorem dX3_tell_15 : decode cX3_tell 15 = .ok (.istore_n 3, 1) := by decide +kernel
theorem dX3_tell_16 : decode cX3_tell 16 = .ok (.iload_n 3, 1) := by decide +kernel
theorem dX3_tell_17 : decode cX3_tell 17 = .ok (.aload_n 1, 1) := by decide +kernel
theorem dX3_tell_18 : decode cX3_tell 18 = .ok (.getfield 39, 3) := by decide +kernel
theorem dX3_tell_21 : decode cX3_tell 21 = .ok (.if_icmp .ge 39, 3) := by decide +kernel
theorem dX3_tell_24 : decode cX3_tell 24 = .ok (.iload_n 2, 1) := by decide +kernel
theorem dX3_tell_25 : decode cX3_tell 25 = .ok (.iload_n 3, 1) := by decide +kernel
theorem dX3_tell_26 : decode cX3_tell 26 = .ok (.ishr, 1) := by decide +kernel
theorem dX3_tell_27 : decode cX3_tell 27 = .ok (.iconst 1, 1) := by decide +kernel
theorem dX3_tell_28 : decode cX3_tell 28 = .ok (.iand, 1) := by decide +kernel
theorem dX3_tell_29 : decode cX3_tell 29 = .ok (.ifCond .eq 25, 3) := by decide +kernel
theorem dX3_tell_32 : decode cX3_tell 32 = .ok (.aload_n 0, 1) := by decide +kernel
theorem dX3_tell_33 : decode cX3_tell 33 = .ok (.aload_n 1, 1) := by decide +kernel
theorem dX3_tell_34 : decode cX3_tell 34 = .ok (.iload_n 3, 1) := by decide +kernel
theorem dX3_tell_35 : decode cX3_tell 35 = .ok (.invokevirtual 45, 3) := by decide +kernel
theorem dX3_tell_38 : decode cX3_tell 38 = .ok (.aload_n 0, 1) := by decide +kernel
theorem dX3_tell_39 : decode cX3_tell 39 = .ok (.getfield 25, 3) := by decide +kernel
theorem dX3_tell_42 : decode cX3_tell 42 = .ok (.aload_n 0, 1) := by decide +kernel
theorem dX3_tell_43 : decode cX3_tell 43 = .ok (.getfield 14, 3) := by decide +kernel
theorem dX3_tell_46 : decode cX3_tell 46 = .ok (.invokevirtual 49, 3) := by decide +kernel
theorem dX3_tell_49 : decode cX3_tell 49 = .ok (.ifCond .eq 5, 3) := by decide +kernel
theorem dX3_tell_52 : decode cX3_tell 52 = .ok (.iload_n 3, 1) := by decide +kernel
theorem dX3_tell_53 : decode cX3_tell 53 = .ok (.ireturn, 1) := by decide +kernel
theorem dX3_tell_54 : decode cX3_tell 54 = .ok (.iinc 3 1, 3) := by decide +kernel
theorem dX3_tell_57 : decode cX3_tell 57 = .ok (.goto (-41), 3) := by decide +kernel
theorem dX3_tell_60 : decode cX3_tell 60 = .ok (.bipush (-4), 2) := by decide +kernel
theorem dX3_tell_62 : decode cX3_tell 62 = .ok (.ireturn, 1) := by decide +kernel
theorem dX3_tellWalk_0 : decode cX3_tellWalk 0 = .ok (.aload_n 1, 1) := by decide +kernel
theorem dX3_tellWalk_1 : decode cX3_tellWalk 1 = .ok (.getfield 53, 3) := by decide +kernel
theorem dX3_tellWalk_4 : decode cX3_tellWalk 4 = .ok (.iload_n 2, 1) := by decide +kernel
theorem dX3_tellWalk_5 : decode cX3_tellWalk 5 = .ok (.iaload, 1) := by decide +kernel
theorem dX3_tellWalk_6 : decode cX3_tellWalk 6 = .ok (.istore_n 3, 1) := by decide +kernel
theorem dX3_tellWalk_7 : decode cX3_tellWalk 7 = .ok (.aload_n 0, 1) := by decide +kernel
theorem dX3_tellWalk_8 : decode cX3_tellWalk 8 = .ok (.aload_n 1, 1) := by decide +kernel
theorem dX3_tellWalk_9 : decode cX3_tellWalk 9 = .ok (.getfield 56, 3) := by decide +kernel
theorem dX3_tellWalk_12 : decode cX3_tellWalk 12 = .ok (.iload_n 3, 1) := by decide +kernel
theorem dX3_tellWalk_13 : decode cX3_tellWalk 13 = .ok (.baload, 1) := by decide +kernel
theorem dX3_tellWalk_14 : decode cX3_tellWalk 14 = .ok (.bipush 97, 2) := by decide +kernel
theorem dX3_tellWalk_16 : decode cX3_tellWalk 16 = .ok (.isub, 1) := by decide +kernel
theorem dX3_tellWalk_17 : decode cX3_tellWalk 17 = .ok (.invokevirtual 60, 3) := by decide +kernel
theorem dX3_tellWalk_20 : decode cX3_tellWalk 20 = .ok (.istore 4, 2) := by decide +kernel
theorem dX3_tellWalk_22 : decode cX3_tellWalk 22 = .ok (.iconst 0, 1) := by decide +kernel
theorem dX3_tellWalk_23 : decode cX3_tellWalk 23 = .ok (.istore 5, 2) := by decide +kernel
theorem dX3_tellWalk_25 : decode cX3_tellWalk 25 = .ok (.aload_n 0, 1) := by decide +kernel
theorem dX3_tellWalk_26 : decode cX3_tellWalk 26 = .ok (.getfield 29, 3) := by decide +kernel
theorem dX3_tellWalk_29 : decode cX3_tellWalk 29 = .ok (.iload_n 3, 1) := by decide +kernel
theorem dX3_tellWalk_30 : decode cX3_tellWalk 30 = .ok (.iload 4, 2) := by decide +kernel
theorem dX3_tellWalk_32 : decode cX3_tellWalk 32 = .ok (.iastore, 1) := by decide +kernel
theorem dX3_tellWalk_33 : decode cX3_tellWalk 33 = .ok (.iload_n 3, 1) := by decide +kernel
theorem dX3_tellWalk_34 : decode cX3_tellWalk 34 = .ok (.iconst 1, 1) := by decide +kernel
theorem dX3_tellWalk_35 : decode cX3_tellWalk 35 = .ok (.iadd, 1) := by decide +kernel
theorem dX3_tellWalk_36 : decode cX3_tellWalk 36 = .ok (.istore 6, 2) := by decide +kernel
theorem dX3_tellWalk_38 : decode cX3_tellWalk 38 = .ok (.iload 6, 2) := by decide +kernel
theorem dX3_tellWalk_40 : decode cX3_tellWalk 40 = .ok (.aload_n 1, 1) := by decide +kernel
theorem dX3_tellWalk_41 : decode cX3_tellWalk 41 = .ok (.getfield 53, 3) := by decide +kernel
theorem dX3_tellWalk_44 : decode cX3_tellWalk 44 = .ok (.iload_n 2, 1) := by decide +kernel
theorem dX3_tellWalk_45 : decode cX3_tellWalk 45 = .ok (.iconst 1, 1) := by decide +kernel
theorem dX3_tellWalk_46 : decode cX3_tellWalk 46 = .ok (.iadd, 1) := by decide +kernel
theorem dX3_tellWalk_47 : decode cX3_tellWalk 47 = .ok (.iaload, 1) := by decide +kernel
theorem dX3_tellWalk_48 : decode cX3_tellWalk 48 = .ok (.if_icmp .ge 85, 3) := by decide +kernel
theorem dX3_tellWalk_51 : decode cX3_tellWalk 51 = .ok (.aload_n 1, 1) := by decide +kernel
theorem dX3_tellWalk_52 : decode cX3_tellWalk 52 = .ok (.getfield 56, 3) := by decide +kernel
theorem dX3_tellWalk_55 : decode cX3_tellWalk 55 = .ok (.iload 6, 2) := by decide +kernel
theorem dX3_tellWalk_57 : decode cX3_tellWalk 57 = .ok (.baload, 1) := by decide +kernel
theorem dX3_tellWalk_58 : decode cX3_tellWalk 58 = .ok (.bipush 48, 2) := by decide +kernel
theorem dX3_tellWalk_60 : decode cX3_tellWalk 60 = .ok (.isub, 1) := by decide +kernel
theorem dX3_tellWalk_61 : decode cX3_tellWalk 61 = .ok (.istore 7, 2) := by decide +kernel
theorem dX3_tellWalk_63 : decode cX3_tellWalk 63 = .ok (.aload_n 1, 1) := by decide +kernel
theorem dX3_tellWalk_64 : decode cX3_tellWalk 64 = .ok (.iload_n 2, 1) := by decide +kernel
theorem dX3_tellWalk_65 : decode cX3_tellWalk 65 = .ok (.iload 6, 2) := by decide +kernel
theorem dX3_tellWalk_67 : decode cX3_tellWalk 67 = .ok (.invokevirtual 64, 3) := by decide +kernel
theorem dX3_tellWalk_70 : decode cX3_tellWalk 70 = .ok (.ifCond .eq 30, 3) := by decide +kernel
theorem dX3_tellWalk_73 : decode cX3_tellWalk 73 = .ok (.aload_n 0, 1) := by decide +kernel
theorem dX3_tellWalk_74 : decode cX3_tellWalk 74 = .ok (.iload 4, 2) := by decide +kernel
theorem dX3_tellWalk_76 : decode cX3_tellWalk 76 = .ok (.iload 7, 2) := by decide +kernel
theorem dX3_tellWalk_78 : decode cX3_tellWalk 78 = .ok (.invokevirtual 68, 3) := by decide +kernel
theorem dX3_tellWalk_81 : decode cX3_tellWalk 81 = .ok (.istore 4, 2) := by decide +kernel
theorem dX3_tellWalk_83 : decode cX3_tellWalk 83 = .ok (.iinc 5 1, 3) := by decide +kernel
theorem dX3_tellWalk_86 : decode cX3_tellWalk 86 = .ok (.aload_n 0, 1) := by decide +kernel
theorem dX3_tellWalk_87 : decode cX3_tellWalk 87 = .ok (.getfield 29, 3) := by decide +kernel
theorem dX3_tellWalk_90 : decode cX3_tellWalk 90 = .ok (.iload_n 3, 1) := by decide +kernel
theorem dX3_tellWalk_91 : decode cX3_tellWalk 91 = .ok (.iload 5, 2) := by decide +kernel
theorem dX3_tellWalk_93 : decode cX3_tellWalk 93 = .ok (.iadd, 1) := by decide +kernel
theorem dX3_tellWalk_94 : decode cX3_tellWalk 94 = .ok (.iload 4, 2) := by decide +kernel
theorem dX3_tellWalk_96 : decode cX3_tellWalk 96 = .ok (.iastore, 1) := by decide +kernel
theorem dX3_tellWalk_97 : decode cX3_tellWalk 97 = .ok (.goto 30, 3) := by decide +kernel
theorem dX3_tellWalk_100 : decode cX3_tellWalk 100 = .ok (.aload_n 1, 1) := by decide +kernel
theorem dX3_tellWalk_101 : decode cX3_tellWalk 101 = .ok (.iload 6, 2) := by decide +kernel
theorem dX3_tellWalk_103 : decode cX3_tellWalk 103 = .ok (.invokevirtual 72, 3) := by decide +kernel
theorem dX3_tellWalk_106 : decode cX3_tellWalk 106 = .ok (.ifCond .eq 21, 3) := by decide +kernel
theorem dX3_tellWalk_109 : decode cX3_tellWalk 109 = .ok (.aload_n 0, 1) := by decide +kernel
theorem dX3_tellWalk_110 : decode cX3_tellWalk 110 = .ok (.aload_n 1, 1) := by decide +kernel
theorem dX3_tellWalk_111 : decode cX3_tellWalk 111 = .ok (.getfield 56, 3) := by decide +kernel
theorem dX3_tellWalk_114 : decode cX3_tellWalk 114 = .ok (.iload 6, 2) := by decide +kernel
theorem dX3_tellWalk_116 : decode cX3_tellWalk 116 = .ok (.iconst 1, 1) := by decide +kernel
theorem dX3_tellWalk_117 : decode cX3_tellWalk 117 = .ok (.isub, 1) := by decide +kernel
theorem dX3_tellWalk_118 : decode cX3_tellWalk 118 = .ok (.baload, 1) := by decide +kernel
theorem dX3_tellWalk_119 : decode cX3_tellWalk 119 = .ok (.iload 7, 2) := by decide +kernel
theorem dX3_tellWalk_121 : decode cX3_tellWalk 121 = .ok (.iload 4, 2) := by decide +kernel
theorem dX3_tellWalk_123 : decode cX3_tellWalk 123 = .ok (.iload_n 3, 1) := by decide +kernel
theorem dX3_tellWalk_124 : decode cX3_tellWalk 124 = .ok (.invokevirtual 76, 3) := by decide +kernel
theorem dX3_tellWalk_127 : decode cX3_tellWalk 127 = .ok (.iinc 6 1, 3) := by decide +kernel
theorem dX3_tellWalk_130 : decode cX3_tellWalk 130 = .ok (.goto (-92), 3) := by decide +kernel
theorem dX3_tellWalk_133 : decode cX3_tellWalk 133 = .ok (.return_, 1) := by decide +kernel
theorem dX3_firstEndOf_0 : decode cX3_firstEndOf 0 = .ok (.iload_n 1, 1) := by decide +kernel
theorem dX3_firstEndOf_1 : decode cX3_firstEndOf 1 = .ok (.invokestatic 80, 3) := by decide +kernel
theorem dX3_firstEndOf_4 : decode cX3_firstEndOf 4 = .ok (.ifCond .ne 5, 3) := by decide +kernel
theorem dX3_firstEndOf_7 : decode cX3_firstEndOf 7 = .ok (.iconst (-1), 1) := by decide +kernel
theorem dX3_firstEndOf_8 : decode cX3_firstEndOf 8 = .ok (.ireturn, 1) := by decide +kernel
theorem dX3_firstEndOf_9 : decode cX3_firstEndOf 9 = .ok (.aload_n 0, 1) := by decide +kernel
theorem dX3_firstEndOf_10 : decode cX3_firstEndOf 10 = .ok (.getfield 25, 3) := by decide +kernel
theorem dX3_firstEndOf_13 : decode cX3_firstEndOf 13 = .ok (.getfield 83, 3) := by decide +kernel
theorem dX3_firstEndOf_16 : decode cX3_firstEndOf 16 = .ok (.iload_n 1, 1) := by decide +kernel
theorem dX3_firstEndOf_17 : decode cX3_firstEndOf 17 = .ok (.iaload, 1) := by decide +kernel
theorem dX3_firstEndOf_18 : decode cX3_firstEndOf 18 = .ok (.ifCond .ge 26, 3) := by decide +kernel
theorem dX3_firstEndOf_21 : decode cX3_firstEndOf 21 = .ok (.aload_n 0, 1) := by decide +kernel
theorem dX3_firstEndOf_22 : decode cX3_firstEndOf 22 = .ok (.getfield 25, 3) := by decide +kernel
theorem dX3_firstEndOf_25 : decode cX3_firstEndOf 25 = .ok (.getfield 83, 3) := by decide +kernel
theorem dX3_firstEndOf_28 : decode cX3_firstEndOf 28 = .ok (.iload_n 1, 1) := by decide +kernel
theorem dX3_firstEndOf_29 : decode cX3_firstEndOf 29 = .ok (.aload_n 0, 1) := by decide +kernel
theorem dX3_firstEndOf_30 : decode cX3_firstEndOf 30 = .ok (.getfield 14, 3) := by decide +kernel
theorem dX3_firstEndOf_33 : decode cX3_firstEndOf 33 = .ok (.aload_n 0, 1) := by decide +kernel
theorem dX3_firstEndOf_34 : decode cX3_firstEndOf 34 = .ok (.getfield 14, 3) := by decide +kernel
theorem dX3_firstEndOf_37 : decode cX3_firstEndOf 37 = .ok (.invokevirtual 86, 3) := by decide +kernel
theorem dX3_firstEndOf_40 : decode cX3_firstEndOf 40 = .ok (.invokevirtual 90, 3) := by decide +kernel
theorem dX3_firstEndOf_43 : decode cX3_firstEndOf 43 = .ok (.iastore, 1) := by decide +kernel
theorem dX3_firstEndOf_44 : decode cX3_firstEndOf 44 = .ok (.aload_n 0, 1) := by decide +kernel
theorem dX3_firstEndOf_45 : decode cX3_firstEndOf 45 = .ok (.getfield 25, 3) := by decide +kernel
theorem dX3_firstEndOf_48 : decode cX3_firstEndOf 48 = .ok (.getfield 83, 3) := by decide +kernel
theorem dX3_firstEndOf_51 : decode cX3_firstEndOf 51 = .ok (.iload_n 1, 1) := by decide +kernel
theorem dX3_firstEndOf_52 : decode cX3_firstEndOf 52 = .ok (.iaload, 1) := by decide +kernel
theorem dX3_firstEndOf_53 : decode cX3_firstEndOf 53 = .ok (.ireturn, 1) := by decide +kernel
theorem dX3_takeLane_0 : decode cX3_takeLane 0 = .ok (.aload_n 0, 1) := by decide +kernel
theorem dX3_takeLane_1 : decode cX3_takeLane 1 = .ok (.getfield 14, 3) := by decide +kernel
theorem dX3_takeLane_4 : decode cX3_takeLane 4 = .ok (.iload_n 1, 1) := by decide +kernel
theorem dX3_takeLane_5 : decode cX3_takeLane 5 = .ok (.iload_n 2, 1) := by decide +kernel
theorem dX3_takeLane_6 : decode cX3_takeLane 6 = .ok (.invokevirtual 93, 3) := by decide +kernel
theorem dX3_takeLane_9 : decode cX3_takeLane 9 = .ok (.istore_n 3, 1) := by decide +kernel
theorem dX3_takeLane_10 : decode cX3_takeLane 10 = .ok (.iload_n 2, 1) := by decide +kernel
theorem dX3_takeLane_11 : decode cX3_takeLane 11 = .ok (.ifCond .le 12, 3) := by decide +kernel
theorem dX3_takeLane_14 : decode cX3_takeLane 14 = .ok (.aload_n 0, 1) := by decide +kernel
theorem dX3_takeLane_15 : decode cX3_takeLane 15 = .ok (.getfield 25, 3) := by decide +kernel
theorem dX3_takeLane_18 : decode cX3_takeLane 18 = .ok (.iload_n 1, 1) := by decide +kernel
theorem dX3_takeLane_19 : decode cX3_takeLane 19 = .ok (.iload_n 3, 1) := by decide +kernel
theorem dX3_takeLane_20 : decode cX3_takeLane 20 = .ok (.invokevirtual 96, 3) := by decide +kernel
theorem dX3_takeLane_23 : decode cX3_takeLane 23 = .ok (.aload_n 0, 1) := by decide +kernel
theorem dX3_takeLane_24 : decode cX3_takeLane 24 = .ok (.getfield 14, 3) := by decide +kernel
theorem dX3_takeLane_27 : decode cX3_takeLane 27 = .ok (.iload_n 3, 1) := by decide +kernel
theorem dX3_takeLane_28 : decode cX3_takeLane 28 = .ok (.invokevirtual 99, 3) := by decide +kernel
theorem dX3_takeLane_31 : decode cX3_takeLane 31 = .ok (.ireturn, 1) := by decide +kernel
theorem dX3_tellFact_0 : decode cX3_tellFact 0 = .ok (.iload_n 1, 1) := by decide +kernel
theorem dX3_tellFact_1 : decode cX3_tellFact 1 = .ok (.lookupswitch 104 #[(33, 84), (35, 35), (61, 64)], 35) := by decide +kernel
theorem dX3_tellFact_36 : decode cX3_tellFact 36 = .ok (.aload_n 0, 1) := by decide +kernel
theorem dX3_tellFact_37 : decode cX3_tellFact 37 = .ok (.getfield 14, 3) := by decide +kernel
theorem dX3_tellFact_40 : decode cX3_tellFact 40 = .ok (.aload_n 0, 1) := by decide +kernel
theorem dX3_tellFact_41 : decode cX3_tellFact 41 = .ok (.getfield 14, 3) := by decide +kernel
theorem dX3_tellFact_44 : decode cX3_tellFact 44 = .ok (.iload_n 3, 1) := by decide +kernel
theorem dX3_tellFact_45 : decode cX3_tellFact 45 = .ok (.iload_n 2, 1) := by decide +kernel
theorem dX3_tellFact_46 : decode cX3_tellFact 46 = .ok (.invokevirtual 93, 3) := by decide +kernel
theorem dX3_tellFact_49 : decode cX3_tellFact 49 = .ok (.iload_n 3, 1) := by decide +kernel
theorem dX3_tellFact_50 : decode cX3_tellFact 50 = .ok (.invokevirtual 102, 3) := by decide +kernel
theorem dX3_tellFact_53 : decode cX3_tellFact 53 = .ok (.aload_n 0, 1) := by decide +kernel
theorem dX3_tellFact_54 : decode cX3_tellFact 54 = .ok (.getfield 25, 3) := by decide +kernel
theorem dX3_tellFact_57 : decode cX3_tellFact 57 = .ok (.iload_n 3, 1) := by decide +kernel
theorem dX3_tellFact_58 : decode cX3_tellFact 58 = .ok (.iload_n 2, 1) := by decide +kernel
theorem dX3_tellFact_59 : decode cX3_tellFact 59 = .ok (.invokevirtual 105, 3) := by decide +kernel
theorem dX3_tellFact_62 : decode cX3_tellFact 62 = .ok (.goto 67, 3) := by decide +kernel
theorem dX3_tellFact_65 : decode cX3_tellFact 65 = .ok (.aload_n 0, 1) := by decide +kernel
theorem dX3_tellFact_66 : decode cX3_tellFact 66 = .ok (.getfield 14, 3) := by decide +kernel
theorem dX3_tellFact_69 : decode cX3_tellFact 69 = .ok (.aload_n 0, 1) := by decide +kernel
theorem dX3_tellFact_70 : decode cX3_tellFact 70 = .ok (.getfield 29, 3) := by decide +kernel
theorem dX3_tellFact_73 : decode cX3_tellFact 73 = .ok (.iload 4, 2) := by decide +kernel
theorem dX3_tellFact_75 : decode cX3_tellFact 75 = .ok (.iload_n 2, 1) := by decide +kernel
theorem dX3_tellFact_76 : decode cX3_tellFact 76 = .ok (.iadd, 1) := by decide +kernel
theorem dX3_tellFact_77 : decode cX3_tellFact 77 = .ok (.iaload, 1) := by decide +kernel
theorem dX3_tellFact_78 : decode cX3_tellFact 78 = .ok (.iload_n 3, 1) := by decide +kernel
theorem dX3_tellFact_79 : decode cX3_tellFact 79 = .ok (.invokevirtual 102, 3) := by decide +kernel
theorem dX3_tellFact_82 : decode cX3_tellFact 82 = .ok (.goto 47, 3) := by decide +kernel
theorem dX3_tellFact_85 : decode cX3_tellFact 85 = .ok (.aload_n 0, 1) := by decide +kernel
theorem dX3_tellFact_86 : decode cX3_tellFact 86 = .ok (.getfield 25, 3) := by decide +kernel
theorem dX3_tellFact_89 : decode cX3_tellFact 89 = .ok (.aload_n 0, 1) := by decide +kernel
theorem dX3_tellFact_90 : decode cX3_tellFact 90 = .ok (.getfield 29, 3) := by decide +kernel
theorem dX3_tellFact_93 : decode cX3_tellFact 93 = .ok (.iload 4, 2) := by decide +kernel
theorem dX3_tellFact_95 : decode cX3_tellFact 95 = .ok (.iload_n 2, 1) := by decide +kernel
theorem dX3_tellFact_96 : decode cX3_tellFact 96 = .ok (.iadd, 1) := by decide +kernel
theorem dX3_tellFact_97 : decode cX3_tellFact 97 = .ok (.iaload, 1) := by decide +kernel
theorem dX3_tellFact_98 : decode cX3_tellFact 98 = .ok (.iload_n 3, 1) := by decide +kernel
theorem dX3_tellFact_99 : decode cX3_tellFact 99 = .ok (.invokevirtual 108, 3) := by decide +kernel
theorem dX3_tellFact_102 : decode cX3_tellFact 102 = .ok (.goto 27, 3) := by decide +kernel
theorem dX3_tellFact_105 : decode cX3_tellFact 105 = .ok (.aload_n 0, 1) := by decide +kernel
theorem dX3_tellFact_106 : decode cX3_tellFact 106 = .ok (.getfield 14, 3) := by decide +kernel
theorem dX3_tellFact_109 : decode cX3_tellFact 109 = .ok (.aload_n 0, 1) := by decide +kernel
theorem dX3_tellFact_110 : decode cX3_tellFact 110 = .ok (.getfield 14, 3) := by decide +kernel
theorem dX3_tellFact_113 : decode cX3_tellFact 113 = .ok (.aload_n 0, 1) := by decide +kernel
theorem dX3_tellFact_114 : decode cX3_tellFact 114 = .ok (.iload_n 1, 1) := by decide +kernel
theorem dX3_tellFact_115 : decode cX3_tellFact 115 = .ok (.bipush 97, 2) := by decide +kernel
theorem dX3_tellFact_117 : decode cX3_tellFact 117 = .ok (.isub, 1) := by decide +kernel
theorem dX3_tellFact_118 : decode cX3_tellFact 118 = .ok (.invokevirtual 60, 3) := by decide +kernel
theorem dX3_tellFact_121 : decode cX3_tellFact 121 = .ok (.iload_n 2, 1) := by decide +kernel
theorem dX3_tellFact_122 : decode cX3_tellFact 122 = .ok (.invokevirtual 93, 3) := by decide +kernel
theorem dX3_tellFact_125 : decode cX3_tellFact 125 = .ok (.iload_n 3, 1) := by decide +kernel
theorem dX3_tellFact_126 : decode cX3_tellFact 126 = .ok (.invokevirtual 102, 3) := by decide +kernel
theorem dX3_tellFact_129 : decode cX3_tellFact 129 = .ok (.return_, 1) := by decide +kernel
theorem dX4_init_0 : decode cX4_init 0 = .ok (.aload_n 0, 1) := by decide +kernel
theorem dX4_init_1 : decode cX4_init 1 = .ok (.invokespecial 3, 3) := by decide +kernel
theorem dX4_init_4 : decode cX4_init 4 = .ok (.aload_n 0, 1) := by decide +kernel
theorem dX4_init_5 : decode cX4_init 5 = .ok (.sipush 300, 3) := by decide +kernel
theorem dX4_init_8 : decode cX4_init 8 = .ok (.newarray .byte, 2) := by decide +kernel
theorem dX4_init_10 : decode cX4_init 10 = .ok (.putfield 9, 3) := by decide +kernel
theorem dX4_init_13 : decode cX4_init 13 = .ok (.aload_n 0, 1) := by decide +kernel
theorem dX4_init_14 : decode cX4_init 14 = .ok (.bipush 10, 2) := by decide +kernel
theorem dX4_init_16 : decode cX4_init 16 = .ok (.newarray .int, 2) := by decide +kernel
theorem dX4_init_18 : decode cX4_init 18 = .ok (.putfield 15, 3) := by decide +kernel
theorem dX4_init_21 : decode cX4_init 21 = .ok (.aload_n 0, 1) := by decide +kernel
theorem dX4_init_22 : decode cX4_init 22 = .ok (.bipush 9, 2) := by decide +kernel
theorem dX4_init_24 : decode cX4_init 24 = .ok (.newarray .int, 2) := by decide +kernel
theorem dX4_init_26 : decode cX4_init 26 = .ok (.putfield 19, 3) := by decide +kernel
theorem dX4_init_29 : decode cX4_init 29 = .ok (.return_, 1) := by decide +kernel
theorem dX4_append_0 : decode cX4_append 0 = .ok (.aload_n 0, 1) := by decide +kernel
theorem dX4_append_1 : decode cX4_append 1 = .ok (.getfield 22, 3) := by decide +kernel
theorem dX4_append_4 : decode cX4_append 4 = .ok (.sipush 300, 3) := by decide +kernel
theorem dX4_append_7 : decode cX4_append 7 = .ok (.if_icmp .ge 23, 3) := by decide +kernel
theorem dX4_append_10 : decode cX4_append 10 = .ok (.aload_n 0, 1) := by decide +kernel
theorem dX4_append_11 : decode cX4_append 11 = .ok (.getfield 9, 3) := by decide +kernel
theorem dX4_append_14 : decode cX4_append 14 = .ok (.aload_n 0, 1) := by decide +kernel
theorem dX4_append_15 : decode cX4_append 15 = .ok (.getfield 22, 3) := by decide +kernel
theorem dX4_append_18 : decode cX4_append 18 = .ok (.iload_n 1, 1) := by decide +kernel
theorem dX4_append_19 : decode cX4_append 19 = .ok (.bastore, 1) := by decide +kernel
theorem dX4_append_20 : decode cX4_append 20 = .ok (.aload_n 0, 1) := by decide +kernel
theorem dX4_append_21 : decode cX4_append 21 = .ok (.dup, 1) := by decide +kernel
theorem dX4_append_22 : decode cX4_append 22 = .ok (.getfield 22, 3) := by decide +kernel
theorem dX4_append_25 : decode cX4_append 25 = .ok (.iconst 1, 1) := by decide +kernel
theorem dX4_append_26 : decode cX4_append 26 = .ok (.iadd, 1) := by decide +kernel
theorem dX4_append_27 : decode cX4_append 27 = .ok (.putfield 22, 3) := by decide +kernel
theorem dX4_append_30 : decode cX4_append 30 = .ok (.return_, 1) := by decide +kernel
theorem dX4_takeOver_0 : decode cX4_takeOver 0 = .ok (.aload_n 1, 1) := by decide +kernel
theorem dX4_takeOver_1 : decode cX4_takeOver 1 = .ok (.getfield 9, 3) := by decide +kernel
theorem dX4_takeOver_4 : decode cX4_takeOver 4 = .ok (.iconst 0, 1) := by decide +kernel
theorem dX4_takeOver_5 : decode cX4_takeOver 5 = .ok (.aload_n 0, 1) := by decide +kernel
theorem dX4_takeOver_6 : decode cX4_takeOver 6 = .ok (.getfield 9, 3) := by decide +kernel
theorem dX4_takeOver_9 : decode cX4_takeOver 9 = .ok (.iconst 0, 1) := by decide +kernel
theorem dX4_takeOver_10 : decode cX4_takeOver 10 = .ok (.aload_n 1, 1) := by decide +kernel
theorem dX4_takeOver_11 : decode cX4_takeOver 11 = .ok (.getfield 22, 3) := by decide +kernel
theorem dX4_takeOver_14 : decode cX4_takeOver 14 = .ok (.invokestatic 26, 3) := by decide +kernel
theorem dX4_takeOver_17 : decode cX4_takeOver 17 = .ok (.aload_n 0, 1) := by decide +kernel
theorem dX4_takeOver_18 : decode cX4_takeOver 18 = .ok (.aload_n 1, 1) := by decide +kernel
theorem dX4_takeOver_19 : decode cX4_takeOver 19 = .ok (.getfield 22, 3) := by decide +kernel
theorem dX4_takeOver_22 : decode cX4_takeOver 22 = .ok (.putfield 22, 3) := by decide +kernel
theorem dX4_takeOver_25 : decode cX4_takeOver 25 = .ok (.return_, 1) := by decide +kernel
theorem dX4_firstFault_0 : decode cX4_firstFault 0 = .ok (.iconst 0, 1) := by decide +kernel
theorem dX4_firstFault_1 : decode cX4_firstFault 1 = .ok (.istore_n 1, 1) := by decide +kernel
theorem dX4_firstFault_2 : decode cX4_firstFault 2 = .ok (.iconst 0, 1) := by decide +kernel
theorem dX4_firstFault_3 : decode cX4_firstFault 3 = .ok (.istore_n 2, 1) := by decide +kernel
theorem dX4_firstFault_4 : decode cX4_firstFault 4 = .ok (.iconst 0, 1) := by decide +kernel
theorem dX4_firstFault_5 : decode cX4_firstFault 5 = .ok (.istore_n 3, 1) := by decide +kernel
theorem dX4_firstFault_6 : decode cX4_firstFault 6 = .ok (.iconst 0, 1) := by decide +kernel
theorem dX4_firstFault_7 : decode cX4_firstFault 7 = .ok (.istore 4, 2) := by decide +kernel
theorem dX4_firstFault_9 : decode cX4_firstFault 9 = .ok (.iload 4, 2) := by decide +kernel
theorem dX4_firstFault_11 : decode cX4_firstFault 11 = .ok (.aload_n 0, 1) := by decide +kernel
theorem dX4_firstFault_12 : decode cX4_firstFault 12 = .ok (.getfield 22, 3) := by decide +kernel
theorem dX4_firstFault_15 : decode cX4_firstFault 15 = .ok (.if_icmp .ge 80, 3) := by decide +kernel
theorem dX4_firstFault_18 : decode cX4_firstFault 18 = .ok (.aload_n 0, 1) := by decide +kernel
theorem dX4_firstFault_19 : decode cX4_firstFault 19 = .ok (.getfield 9, 3) := by decide +kernel
theorem dX4_firstFault_22 : decode cX4_firstFault 22 = .ok (.iload 4, 2) := by decide +kernel
theorem dX4_firstFault_24 : decode cX4_firstFault 24 = .ok (.baload, 1) := by decide +kernel
theorem dX4_firstFault_25 : decode cX4_firstFault 25 = .ok (.istore 5, 2) := by decide +kernel
theorem dX4_firstFault_27 : decode cX4_firstFault 27 = .ok (.iload_n 3, 1) := by decide +kernel
theorem dX4_firstFault_28 : decode cX4_firstFault 28 = .ok (.iload 5, 2) := by decide +kernel
theorem dX4_firstFault_30 : decode cX4_firstFault 30 = .ok (.iload_n 2, 1) := by decide +kernel
theorem dX4_firstFault_31 : decode cX4_firstFault 31 = .ok (.invokestatic 32, 3) := by decide +kernel
theorem dX4_firstFault_34 : decode cX4_firstFault 34 = .ok (.ifCond .eq 13, 3) := by decide +kernel
theorem dX4_firstFault_37 : decode cX4_firstFault 37 = .ok (.iload_n 3, 1) := by decide +kernel
theorem dX4_firstFault_38 : decode cX4_firstFault 38 = .ok (.ifCond .ne 12, 3) := by decide +kernel
theorem dX4_firstFault_41 : decode cX4_firstFault 41 = .ok (.iload_n 1, 1) := by decide +kernel
theorem dX4_firstFault_42 : decode cX4_firstFault 42 = .ok (.bipush 9, 2) := by decide +kernel
theorem dX4_firstFault_44 : decode cX4_firstFault 44 = .ok (.if_icmp .ne 6, 3) := by decide +kernel
theorem dX4_firstFault_47 : decode cX4_firstFault 47 = .ok (.iload 4, 2) := by decide +kernel
theorem dX4_firstFault_49 : decode cX4_firstFault 49 = .ok (.ireturn, 1) := by decide +kernel
theorem dX4_firstFault_50 : decode cX4_firstFault 50 = .ok (.iload_n 3, 1) := by decide +kernel
theorem dX4_firstFault_51 : decode cX4_firstFault 51 = .ok (.ifCond .ne 11, 3) := by decide +kernel
theorem dX4_firstFault_54 : decode cX4_firstFault 54 = .ok (.iinc 1 1, 3) := by decide +kernel
theorem dX4_firstFault_57 : decode cX4_firstFault 57 = .ok (.iconst 0, 1) := by decide +kernel
theorem dX4_firstFault_58 : decode cX4_firstFault 58 = .ok (.istore_n 2, 1) := by decide +kernel
theorem dX4_firstFault_59 : decode cX4_firstFault 59 = .ok (.goto 23, 3) := by decide +kernel
theorem dX4_firstFault_62 : decode cX4_firstFault 62 = .ok (.iload_n 3, 1) := by decide +kernel
theorem dX4_firstFault_63 : decode cX4_firstFault 63 = .ok (.iconst 1, 1) := by decide +kernel
theorem dX4_firstFault_64 : decode cX4_firstFault 64 = .ok (.if_icmp .ne 18, 3) := by decide +kernel
theorem dX4_firstFault_67 : decode cX4_firstFault 67 = .ok (.iload 5, 2) := by decide +kernel
theorem dX4_firstFault_69 : decode cX4_firstFault 69 = .ok (.bipush 48, 2) := by decide +kernel
theorem dX4_firstFault_71 : decode cX4_firstFault 71 = .ok (.bipush 53, 2) := by decide +kernel
theorem dX4_firstFault_73 : decode cX4_firstFault 73 = .ok (.invokestatic 36, 3) := by decide +kernel
theorem dX4_firstFault_76 : decode cX4_firstFault 76 = .ok (.ifCond .eq 6, 3) := by decide +kernel
theorem dX4_firstFault_79 : decode cX4_firstFault 79 = .ok (.iinc 2 1, 3) := by decide +kernel
theorem dX4_firstFault_82 : decode cX4_firstFault 82 = .ok (.iload_n 3, 1) := by decide +kernel
theorem dX4_firstFault_83 : decode cX4_firstFault 83 = .ok (.iload 5, 2) := by decide +kernel
theorem dX4_firstFault_85 : decode cX4_firstFault 85 = .ok (.invokestatic 40, 3) := by decide +kernel
theorem dX4_firstFault_88 : decode cX4_firstFault 88 = .ok (.istore_n 3, 1) := by decide +kernel
theorem dX4_firstFault_89 : decode cX4_firstFault 89 = .ok (.iinc 4 1, 3) := by decide +kernel
theorem dX4_firstFault_92 : decode cX4_firstFault 92 = .ok (.goto (-83), 3) := by decide +kernel
theorem dX4_firstFault_95 : decode cX4_firstFault 95 = .ok (.iload_n 3, 1) := by decide +kernel
theorem dX4_firstFault_96 : decode cX4_firstFault 96 = .ok (.ifCond .ne 8, 3) := by decide +kernel
theorem dX4_firstFault_99 : decode cX4_firstFault 99 = .ok (.bipush (-4), 2) := by decide +kernel
theorem dX4_firstFault_101 : decode cX4_firstFault 101 = .ok (.goto 7, 3) := by decide +kernel
theorem dX4_firstFault_104 : decode cX4_firstFault 104 = .ok (.aload_n 0, 1) := by decide +kernel
theorem dX4_firstFault_105 : decode cX4_firstFault 105 = .ok (.getfield 22, 3) := by decide +kernel
theorem dX4_firstFault_108 : decode cX4_firstFault 108 = .ok (.ireturn, 1) := by decide +kernel
theorem dX4_canStand_0 : decode cX4_canStand 0 = .ok (.iload_n 0, 1) := by decide +kernel
theorem dX4_canStand_1 : decode cX4_canStand 1 = .ok (.tableswitch 110 0 3 #[31, 40, 92, 101], 31) := by decide +kernel
theorem dX4_canStand_32 : decode cX4_canStand 32 = .ok (.iload_n 1, 1) := by decide +kernel
theorem dX4_canStand_33 : decode cX4_canStand 33 = .ok (.bipush 97, 2) := by decide +kernel
theorem dX4_canStand_35 : decode cX4_canStand 35 = .ok (.bipush 104, 2) := by decide +kernel
theorem dX4_canStand_37 : decode cX4_canStand 37 = .ok (.invokestatic 36, 3) := by decide +kernel
theorem dX4_canStand_40 : decode cX4_canStand 40 = .ok (.ireturn, 1) := by decide +kernel
theorem dX4_canStand_41 : decode cX4_canStand 41 = .ok (.iload_n 1, 1) := by decide +kernel
theorem dX4_canStand_42 : decode cX4_canStand 42 = .ok (.bipush 97, 2) := by decide +kernel
theorem dX4_canStand_44 : decode cX4_canStand 44 = .ok (.bipush 104, 2) := by decide +kernel
theorem dX4_canStand_46 : decode cX4_canStand 46 = .ok (.invokestatic 36, 3) := by decide +kernel
theorem dX4_canStand_49 : decode cX4_canStand 49 = .ok (.ifCond .ne 38, 3) := by decide +kernel
theorem dX4_canStand_52 : decode cX4_canStand 52 = .ok (.iload_n 1, 1) := by decide +kernel
theorem dX4_canStand_53 : decode cX4_canStand 53 = .ok (.bipush 48, 2) := by decide +kernel
theorem dX4_canStand_55 : decode cX4_canStand 55 = .ok (.bipush 53, 2) := by decide +kernel
theorem dX4_canStand_57 : decode cX4_canStand 57 = .ok (.invokestatic 36, 3) := by decide +kernel
theorem dX4_canStand_60 : decode cX4_canStand 60 = .ok (.ifCond .ne 27, 3) := by decide +kernel
theorem dX4_canStand_63 : decode cX4_canStand 63 = .ok (.iload_n 1, 1) := by decide +kernel
theorem dX4_canStand_64 : decode cX4_canStand 64 = .ok (.bipush 35, 2) := by decide +kernel
theorem dX4_canStand_66 : decode cX4_canStand 66 = .ok (.if_icmp .eq 21, 3) := by decide +kernel
theorem dX4_canStand_69 : decode cX4_canStand 69 = .ok (.iload_n 1, 1) := by decide +kernel
theorem dX4_canStand_70 : decode cX4_canStand 70 = .ok (.bipush 61, 2) := by decide +kernel
theorem dX4_canStand_72 : decode cX4_canStand 72 = .ok (.if_icmp .eq 15, 3) := by decide +kernel
theorem dX4_canStand_75 : decode cX4_canStand 75 = .ok (.iload_n 1, 1) := by decide +kernel
theorem dX4_canStand_76 : decode cX4_canStand 76 = .ok (.bipush 33, 2) := by decide +kernel
theorem dX4_canStand_78 : decode cX4_canStand 78 = .ok (.if_icmp .eq 9, 3) := by decide +kernel
theorem dX4_canStand_81 : decode cX4_canStand 81 = .ok (.iload_n 1, 1) := by decide +kernel
theorem dX4_canStand_82 : decode cX4_canStand 82 = .ok (.bipush 59, 2) := by decide +kernel
theorem dX4_canStand_84 : decode cX4_canStand 84 = .ok (.if_icmp .ne 7, 3) := by decide +kernel
theorem dX4_canStand_87 : decode cX4_canStand 87 = .ok (.iconst 1, 1) := by decide +kernel
theorem dX4_canStand_88 : decode cX4_canStand 88 = .ok (.goto 4, 3) := by decide +kernel
theorem dX4_canStand_91 : decode cX4_canStand 91 = .ok (.iconst 0, 1) := by decide +kernel
theorem dX4_canStand_92 : decode cX4_canStand 92 = .ok (.ireturn, 1) := by decide +kernel
theorem dX4_canStand_93 : decode cX4_canStand 93 = .ok (.iload_n 1, 1) := by decide +kernel
theorem dX4_canStand_94 : decode cX4_canStand 94 = .ok (.bipush 48, 2) := by decide +kernel
theorem dX4_canStand_96 : decode cX4_canStand 96 = .ok (.bipush 53, 2) := by decide +kernel
theorem dX4_canStand_98 : decode cX4_canStand 98 = .ok (.invokestatic 36, 3) := by decide +kernel
theorem dX4_canStand_101 : decode cX4_canStand 101 = .ok (.ireturn, 1) := by decide +kernel
theorem dX4_canStand_102 : decode cX4_canStand 102 = .ok (.iload_n 1, 1) := by decide +kernel
theorem dX4_canStand_103 : decode cX4_canStand 103 = .ok (.bipush 49, 2) := by decide +kernel
theorem dX4_canStand_105 : decode cX4_canStand 105 = .ok (.bipush 54, 2) := by decide +kernel
theorem dX4_canStand_107 : decode cX4_canStand 107 = .ok (.invokestatic 36, 3) := by decide +kernel
theorem dX4_canStand_110 : decode cX4_canStand 110 = .ok (.ireturn, 1) := by decide +kernel
theorem dX4_canStand_111 : decode cX4_canStand 111 = .ok (.iload_n 1, 1) := by decide +kernel
theorem dX4_canStand_112 : decode cX4_canStand 112 = .ok (.bipush 48, 2) := by decide +kernel
theorem dX4_canStand_114 : decode cX4_canStand 114 = .ok (.bipush 57, 2) := by decide +kernel
theorem dX4_canStand_116 : decode cX4_canStand 116 = .ok (.invokestatic 36, 3) := by decide +kernel
theorem dX4_canStand_119 : decode cX4_canStand 119 = .ok (.ifCond .eq 15, 3) := by decide +kernel
theorem dX4_canStand_122 : decode cX4_canStand 122 = .ok (.iload_n 1, 1) := by decide +kernel
theorem dX4_canStand_123 : decode cX4_canStand 123 = .ok (.bipush 48, 2) := by decide +kernel
theorem dX4_canStand_125 : decode cX4_canStand 125 = .ok (.isub, 1) := by decide +kernel
theorem dX4_canStand_126 : decode cX4_canStand 126 = .ok (.iload_n 2, 1) := by decide +kernel
theorem dX4_canStand_127 : decode cX4_canStand 127 = .ok (.if_icmp .gt 7, 3) := by decide +kernel
theorem dX4_canStand_130 : decode cX4_canStand 130 = .ok (.iconst 1, 1) := by decide +kernel
theorem dX4_canStand_131 : decode cX4_canStand 131 = .ok (.goto 4, 3) := by decide +kernel
theorem dX4_canStand_134 : decode cX4_canStand 134 = .ok (.iconst 0, 1) := by decide +kernel
theorem dX4_canStand_135 : decode cX4_canStand 135 = .ok (.ireturn, 1) := by decide +kernel
theorem dX4_wantedBehind_0 : decode cX4_wantedBehind 0 = .ok (.iload_n 0, 1) := by decide +kernel
theorem dX4_wantedBehind_1 : decode cX4_wantedBehind 1 = .ok (.iconst 1, 1) := by decide +kernel
theorem dX4_wantedBehind_2 : decode cX4_wantedBehind 2 = .ok (.if_icmp .eq 5, 3) := by decide +kernel
theorem dX4_wantedBehind_5 : decode cX4_wantedBehind 5 = .ok (.iconst 1, 1) := by decide +kernel
theorem dX4_wantedBehind_6 : decode cX4_wantedBehind 6 = .ok (.ireturn, 1) := by decide +kernel
theorem dX4_wantedBehind_7 : decode cX4_wantedBehind 7 = .ok (.iload_n 1, 1) := by decide +kernel
theorem dX4_wantedBehind_8 : decode cX4_wantedBehind 8 = .ok (.lookupswitch 50 #[(33, 48), (35, 46), (59, 44), (61, 48)], 44) := by decide +kernel
theorem dX4_wantedBehind_52 : decode cX4_wantedBehind 52 = .ok (.iconst 0, 1) := by decide +kernel
theorem dX4_wantedBehind_53 : decode cX4_wantedBehind 53 = .ok (.ireturn, 1) := by decide +kernel
theorem dX4_wantedBehind_54 : decode cX4_wantedBehind 54 = .ok (.iconst 3, 1) := by decide +kernel
theorem dX4_wantedBehind_55 : decode cX4_wantedBehind 55 = .ok (.ireturn, 1) := by decide +kernel
theorem dX4_wantedBehind_56 : decode cX4_wantedBehind 56 = .ok (.iconst 4, 1) := by decide +kernel
theorem dX4_wantedBehind_57 : decode cX4_wantedBehind 57 = .ok (.ireturn, 1) := by decide +kernel
theorem dX4_wantedBehind_58 : decode cX4_wantedBehind 58 = .ok (.iload_n 1, 1) := by decide +kernel
theorem dX4_wantedBehind_59 : decode cX4_wantedBehind 59 = .ok (.bipush 97, 2) := by decide +kernel
theorem dX4_wantedBehind_61 : decode cX4_wantedBehind 61 = .ok (.bipush 104, 2) := by decide +kernel
theorem dX4_wantedBehind_63 : decode cX4_wantedBehind 63 = .ok (.invokestatic 36, 3) := by decide +kernel
theorem dX4_wantedBehind_66 : decode cX4_wantedBehind 66 = .ok (.ifCond .eq 7, 3) := by decide +kernel
theorem dX4_wantedBehind_69 : decode cX4_wantedBehind 69 = .ok (.iconst 2, 1) := by decide +kernel
theorem dX4_wantedBehind_70 : decode cX4_wantedBehind 70 = .ok (.goto 4, 3) := by decide +kernel
theorem dX4_wantedBehind_73 : decode cX4_wantedBehind 73 = .ok (.iconst 1, 1) := by decide +kernel
theorem dX4_wantedBehind_74 : decode cX4_wantedBehind 74 = .ok (.ireturn, 1) := by decide +kernel
theorem dX4_isBetween_0 : decode cX4_isBetween 0 = .ok (.iload_n 0, 1) := by decide +kernel
theorem dX4_isBetween_1 : decode cX4_isBetween 1 = .ok (.iload_n 1, 1) := by decide +kernel
theorem dX4_isBetween_2 : decode cX4_isBetween 2 = .ok (.if_icmp .lt 12, 3) := by decide +kernel
theorem dX4_isBetween_5 : decode cX4_isBetween 5 = .ok (.iload_n 0, 1) := by decide +kernel
theorem dX4_isBetween_6 : decode cX4_isBetween 6 = .ok (.iload_n 2, 1) := by decide +kernel
theorem dX4_isBetween_7 : decode cX4_isBetween 7 = .ok (.if_icmp .gt 7, 3) := by decide +kernel
theorem dX4_isBetween_10 : decode cX4_isBetween 10 = .ok (.iconst 1, 1) := by decide +kernel
theorem dX4_isBetween_11 : decode cX4_isBetween 11 = .ok (.goto 4, 3) := by decide +kernel
theorem dX4_isBetween_14 : decode cX4_isBetween 14 = .ok (.iconst 0, 1) := by decide +kernel
theorem dX4_isBetween_15 : decode cX4_isBetween 15 = .ok (.ireturn, 1) := by decide +kernel
theorem dX4_findWalks_0 : decode cX4_findWalks 0 = .ok (.aload_n 0, 1) := by decide +kernel
theorem dX4_findWalks_1 : decode cX4_findWalks 1 = .ok (.iconst 0, 1) := by decide +kernel
theorem dX4_findWalks_2 : decode cX4_findWalks 2 = .ok (.putfield 44, 3) := by decide +kernel
theorem dX4_findWalks_5 : decode cX4_findWalks 5 = .ok (.aload_n 0, 1) := by decide +kernel
theorem dX4_findWalks_6 : decode cX4_findWalks 6 = .ok (.getfield 15, 3) := by decide +kernel
theorem dX4_findWalks_9 : decode cX4_findWalks 9 = .ok (.iconst 0, 1) := by decide +kernel
theorem dX4_findWalks_10 : decode cX4_findWalks 10 = .ok (.iconst 0, 1) := by decide +kernel
theorem dX4_findWalks_11 : decode cX4_findWalks 11 = .ok (.iastore, 1) := by decide +kernel
theorem dX4_findWalks_12 : decode cX4_findWalks 12 = .ok (.aload_n 0, 1) := by decide +kernel
theorem dX4_findWalks_13 : decode cX4_findWalks 13 = .ok (.getfield 19, 3) := by decide +kernel
theorem dX4_findWalks_16 : decode cX4_findWalks 16 = .ok (.iconst 0, 1) := by decide +kernel
theorem dX4_findWalks_17 : decode cX4_findWalks 17 = .ok (.iconst 0, 1) := by decide +kernel
theorem dX4_findWalks_18 : decode cX4_findWalks 18 = .ok (.iastore, 1) := by decide +kernel
theorem dX4_findWalks_19 : decode cX4_findWalks 19 = .ok (.iconst 0, 1) := by decide +kernel
theorem dX4_findWalks_20 : decode cX4_findWalks 20 = .ok (.istore_n 1, 1) := by decide +kernel
theorem dX4_findWalks_21 : decode cX4_findWalks 21 = .ok (.iload_n 1, 1) := by decide +kernel
theorem dX4_findWalks_22 : decode cX4_findWalks 22 = .ok (.aload_n 0, 1) := by decide +kernel
theorem dX4_findWalks_23 : decode cX4_findWalks 23 = .ok (.getfield 22, 3) := by decide +kernel
theorem dX4_findWalks_26 : decode cX4_findWalks 26 = .ok (.if_icmp .ge 98, 3) := by decide +kernel
theorem dX4_findWalks_29 : decode cX4_findWalks 29 = .ok (.aload_n 0, 1) := by decide +kernel
theorem dX4_findWalks_30 : decode cX4_findWalks 30 = .ok (.getfield 44, 3) := by decide +kernel
theorem dX4_findWalks_33 : decode cX4_findWalks 33 = .ok (.bipush 9, 2) := by decide +kernel
theorem dX4_findWalks_35 : decode cX4_findWalks 35 = .ok (.if_icmp .ge 89, 3) := by decide +kernel
theorem dX4_findWalks_38 : decode cX4_findWalks 38 = .ok (.aload_n 0, 1) := by decide +kernel
theorem dX4_findWalks_39 : decode cX4_findWalks 39 = .ok (.aload_n 0, 1) := by decide +kernel
theorem dX4_findWalks_40 : decode cX4_findWalks 40 = .ok (.getfield 44, 3) := by decide +kernel
theorem dX4_findWalks_43 : decode cX4_findWalks 43 = .ok (.iload_n 1, 1) := by decide +kernel
theorem dX4_findWalks_44 : decode cX4_findWalks 44 = .ok (.invokevirtual 47, 3) := by decide +kernel
theorem dX4_findWalks_47 : decode cX4_findWalks 47 = .ok (.ifCond .eq 19, 3) := by decide +kernel
theorem dX4_findWalks_50 : decode cX4_findWalks 50 = .ok (.aload_n 0, 1) := by decide +kernel
theorem dX4_findWalks_51 : decode cX4_findWalks 51 = .ok (.getfield 19, 3) := by decide +kernel
theorem dX4_findWalks_54 : decode cX4_findWalks 54 = .ok (.aload_n 0, 1) := by decide +kernel
theorem dX4_findWalks_55 : decode cX4_findWalks 55 = .ok (.getfield 44, 3) := by decide +kernel
theorem dX4_findWalks_58 : decode cX4_findWalks 58 = .ok (.dup2, 1) := by decide +kernel
theorem dX4_findWalks_59 : decode cX4_findWalks 59 = .ok (.iaload, 1) := by decide +kernel
theorem dX4_findWalks_60 : decode cX4_findWalks 60 = .ok (.iconst 1, 1) := by decide +kernel
theorem dX4_findWalks_61 : decode cX4_findWalks 61 = .ok (.iadd, 1) := by decide +kernel
theorem dX4_findWalks_62 : decode cX4_findWalks 62 = .ok (.iastore, 1) := by decide +kernel
theorem dX4_findWalks_63 : decode cX4_findWalks 63 = .ok (.goto 55, 3) := by decide +kernel
theorem dX4_findWalks_66 : decode cX4_findWalks 66 = .ok (.aload_n 0, 1) := by decide +kernel
theorem dX4_findWalks_67 : decode cX4_findWalks 67 = .ok (.getfield 9, 3) := by decide +kernel
theorem dX4_findWalks_70 : decode cX4_findWalks 70 = .ok (.iload_n 1, 1) := by decide +kernel
theorem dX4_findWalks_71 : decode cX4_findWalks 71 = .ok (.baload, 1) := by decide +kernel
theorem dX4_findWalks_72 : decode cX4_findWalks 72 = .ok (.bipush 59, 2) := by decide +kernel
theorem dX4_findWalks_74 : decode cX4_findWalks 74 = .ok (.if_icmp .ne 44, 3) := by decide +kernel
theorem dX4_findWalks_77 : decode cX4_findWalks 77 = .ok (.aload_n 0, 1) := by decide +kernel
theorem dX4_findWalks_78 : decode cX4_findWalks 78 = .ok (.dup, 1) := by decide +kernel
theorem dX4_findWalks_79 : decode cX4_findWalks 79 = .ok (.getfield 44, 3) := by decide +kernel
theorem dX4_findWalks_82 : decode cX4_findWalks 82 = .ok (.iconst 1, 1) := by decide +kernel
theorem dX4_findWalks_83 : decode cX4_findWalks 83 = .ok (.iadd, 1) := by decide +kernel
theorem dX4_findWalks_84 : decode cX4_findWalks 84 = .ok (.putfield 44, 3) := by decide +kernel
theorem dX4_findWalks_87 : decode cX4_findWalks 87 = .ok (.aload_n 0, 1) := by decide +kernel
theorem dX4_findWalks_88 : decode cX4_findWalks 88 = .ok (.getfield 15, 3) := by decide +kernel
theorem dX4_findWalks_91 : decode cX4_findWalks 91 = .ok (.aload_n 0, 1) := by decide +kernel
theorem dX4_findWalks_92 : decode cX4_findWalks 92 = .ok (.getfield 44, 3) := by decide +kernel
theorem dX4_findWalks_95 : decode cX4_findWalks 95 = .ok (.iload_n 1, 1) := by decide +kernel
theorem dX4_findWalks_96 : decode cX4_findWalks 96 = .ok (.iconst 1, 1) := by decide +kernel
theorem dX4_findWalks_97 : decode cX4_findWalks 97 = .ok (.iadd, 1) := by decide +kernel
theorem dX4_findWalks_98 : decode cX4_findWalks 98 = .ok (.iastore, 1) := by decide +kernel
theorem dX4_findWalks_99 : decode cX4_findWalks 99 = .ok (.aload_n 0, 1) := by decide +kernel
theorem dX4_findWalks_100 : decode cX4_findWalks 100 = .ok (.getfield 44, 3) := by decide +kernel
theorem dX4_findWalks_103 : decode cX4_findWalks 103 = .ok (.bipush 9, 2) := by decide +kernel
theorem dX4_findWalks_105 : decode cX4_findWalks 105 = .ok (.if_icmp .ge 13, 3) := by decide +kernel
theorem dX4_findWalks_108 : decode cX4_findWalks 108 = .ok (.aload_n 0, 1) := by decide +kernel
theorem dX4_findWalks_109 : decode cX4_findWalks 109 = .ok (.getfield 19, 3) := by decide +kernel
theorem dX4_findWalks_112 : decode cX4_findWalks 112 = .ok (.aload_n 0, 1) := by decide +kernel
theorem dX4_findWalks_113 : decode cX4_findWalks 113 = .ok (.getfield 44, 3) := by decide +kernel
theorem dX4_findWalks_116 : decode cX4_findWalks 116 = .ok (.iconst 0, 1) := by decide +kernel
theorem dX4_findWalks_117 : decode cX4_findWalks 117 = .ok (.iastore, 1) := by decide +kernel
theorem dX4_findWalks_118 : decode cX4_findWalks 118 = .ok (.iinc 1 1, 3) := by decide +kernel
theorem dX4_findWalks_121 : decode cX4_findWalks 121 = .ok (.goto (-100), 3) := by decide +kernel
theorem dX4_findWalks_124 : decode cX4_findWalks 124 = .ok (.return_, 1) := by decide +kernel
theorem dX4_isFigure_0 : decode cX4_isFigure 0 = .ok (.iload_n 1, 1) := by decide +kernel
theorem dX4_isFigure_1 : decode cX4_isFigure 1 = .ok (.ifCond .lt 31, 3) := by decide +kernel
theorem dX4_isFigure_4 : decode cX4_isFigure 4 = .ok (.iload_n 1, 1) := by decide +kernel
theorem dX4_isFigure_5 : decode cX4_isFigure 5 = .ok (.aload_n 0, 1) := by decide +kernel
theorem dX4_isFigure_6 : decode cX4_isFigure 6 = .ok (.getfield 22, 3) := by decide +kernel
theorem dX4_isFigure_9 : decode cX4_isFigure 9 = .ok (.if_icmp .ge 23, 3) := by decide +kernel
theorem dX4_isFigure_12 : decode cX4_isFigure 12 = .ok (.aload_n 0, 1) := by decide +kernel
theorem dX4_isFigure_13 : decode cX4_isFigure 13 = .ok (.getfield 9, 3) := by decide +kernel
theorem dX4_isFigure_16 : decode cX4_isFigure 16 = .ok (.iload_n 1, 1) := by decide +kernel
theorem dX4_isFigure_17 : decode cX4_isFigure 17 = .ok (.baload, 1) := by decide +kernel
theorem dX4_isFigure_18 : decode cX4_isFigure 18 = .ok (.bipush 48, 2) := by decide +kernel
theorem dX4_isFigure_20 : decode cX4_isFigure 20 = .ok (.bipush 57, 2) := by decide +kernel
theorem dX4_isFigure_22 : decode cX4_isFigure 22 = .ok (.invokestatic 36, 3) := by decide +kernel
theorem dX4_isFigure_25 : decode cX4_isFigure 25 = .ok (.ifCond .eq 7, 3) := by decide +kernel
theorem dX4_isFigure_28 : decode cX4_isFigure 28 = .ok (.iconst 1, 1) := by decide +kernel
theorem dX4_isFigure_29 : decode cX4_isFigure 29 = .ok (.goto 4, 3) := by decide +kernel
theorem dX4_isFigure_32 : decode cX4_isFigure 32 = .ok (.iconst 0, 1) := by decide +kernel
theorem dX4_isFigure_33 : decode cX4_isFigure 33 = .ok (.ireturn, 1) := by decide +kernel
theorem dX4_isTurning_0 : decode cX4_isTurning 0 = .ok (.aload_n 0, 1) := by decide +kernel
theorem dX4_isTurning_1 : decode cX4_isTurning 1 = .ok (.iload_n 2, 1) := by decide +kernel
theorem dX4_isTurning_2 : decode cX4_isTurning 2 = .ok (.invokevirtual 51, 3) := by decide +kernel
theorem dX4_isTurning_5 : decode cX4_isTurning 5 = .ok (.ifCond .eq 29, 3) := by decide +kernel
theorem dX4_isTurning_8 : decode cX4_isTurning 8 = .ok (.aload_n 0, 1) := by decide +kernel
theorem dX4_isTurning_9 : decode cX4_isTurning 9 = .ok (.iload_n 2, 1) := by decide +kernel
theorem dX4_isTurning_10 : decode cX4_isTurning 10 = .ok (.iconst 1, 1) := by decide +kernel
theorem dX4_isTurning_11 : decode cX4_isTurning 11 = .ok (.isub, 1) := by decide +kernel
theorem dX4_isTurning_12 : decode cX4_isTurning 12 = .ok (.invokevirtual 51, 3) := by decide +kernel
theorem dX4_isTurning_15 : decode cX4_isTurning 15 = .ok (.ifCond .ne 15, 3) := by decide +kernel
theorem dX4_isTurning_18 : decode cX4_isTurning 18 = .ok (.iload_n 2, 1) := by decide +kernel
theorem dX4_isTurning_19 : decode cX4_isTurning 19 = .ok (.iconst 1, 1) := by decide +kernel
theorem dX4_isTurning_20 : decode cX4_isTurning 20 = .ok (.isub, 1) := by decide +kernel
theorem dX4_isTurning_21 : decode cX4_isTurning 21 = .ok (.aload_n 0, 1) := by decide +kernel
theorem dX4_isTurning_22 : decode cX4_isTurning 22 = .ok (.getfield 15, 3) := by decide +kernel
theorem dX4_isTurning_25 : decode cX4_isTurning 25 = .ok (.iload_n 1, 1) := by decide +kernel
theorem dX4_isTurning_26 : decode cX4_isTurning 26 = .ok (.iaload, 1) := by decide +kernel
theorem dX4_isTurning_27 : decode cX4_isTurning 27 = .ok (.if_icmp .ne 7, 3) := by decide +kernel
theorem dX4_isTurning_30 : decode cX4_isTurning 30 = .ok (.iconst 1, 1) := by decide +kernel
theorem dX4_isTurning_31 : decode cX4_isTurning 31 = .ok (.goto 4, 3) := by decide +kernel
theorem dX4_isTurning_34 : decode cX4_isTurning 34 = .ok (.iconst 0, 1) := by decide +kernel
theorem dX4_isTurning_35 : decode cX4_isTurning 35 = .ok (.ireturn, 1) := by decide +kernel
theorem dX4_allTurnings_0 : decode cX4_allTurnings 0 = .ok (.iconst 0, 1) := by decide +kernel
theorem dX4_allTurnings_1 : decode cX4_allTurnings 1 = .ok (.istore_n 1, 1) := by decide +kernel
theorem dX4_allTurnings_2 : decode cX4_allTurnings 2 = .ok (.iconst 0, 1) := by decide +kernel
theorem dX4_allTurnings_3 : decode cX4_allTurnings 3 = .ok (.istore_n 2, 1) := by decide +kernel
theorem dX4_allTurnings_4 : decode cX4_allTurnings 4 = .ok (.iload_n 2, 1) := by decide +kernel
theorem dX4_allTurnings_5 : decode cX4_allTurnings 5 = .ok (.aload_n 0, 1) := by decide +kernel
theorem dX4_allTurnings_6 : decode cX4_allTurnings 6 = .ok (.getfield 44, 3) := by decide +kernel
theorem dX4_allTurnings_9 : decode cX4_allTurnings 9 = .ok (.if_icmp .ge 18, 3) := by decide +kernel
theorem dX4_allTurnings_12 : decode cX4_allTurnings 12 = .ok (.iload_n 1, 1) := by decide +kernel
theorem dX4_allTurnings_13 : decode cX4_allTurnings 13 = .ok (.aload_n 0, 1) := by decide +kernel
theorem dX4_allTurnings_14 : decode cX4_allTurnings 14 = .ok (.getfield 19, 3) := by decide +kernel
theorem dX4_allTurnings_17 : decode cX4_allTurnings 17 = .ok (.iload_n 2, 1) := by decide +kernel
theorem dX4_allTurnings_18 : decode cX4_allTurnings 18 = .ok (.iaload, 1) := by decide +kernel
theorem dX4_allTurnings_19 : decode cX4_allTurnings 19 = .ok (.iadd, 1) := by decide +kernel
theorem dX4_allTurnings_20 : decode cX4_allTurnings 20 = .ok (.istore_n 1, 1) := by decide +kernel
theorem dX4_allTurnings_21 : decode cX4_allTurnings 21 = .ok (.iinc 2 1, 3) := by decide +kernel
theorem dX4_allTurnings_24 : decode cX4_allTurnings 24 = .ok (.goto (-20), 3) := by decide +kernel
theorem dX4_allTurnings_27 : decode cX4_allTurnings 27 = .ok (.iload_n 1, 1) := by decide +kernel
theorem dX4_allTurnings_28 : decode cX4_allTurnings 28 = .ok (.ireturn, 1) := by decide +kernel
theorem dX5_init_0 : decode cX5_init 0 = .ok (.aload_n 0, 1) := by decide +kernel
theorem dX5_init_1 : decode cX5_init 1 = .ok (.invokespecial 3, 3) := by decide +kernel
theorem dX5_init_4 : decode cX5_init 4 = .ok (.aload_n 0, 1) := by decide +kernel
theorem dX5_init_5 : decode cX5_init 5 = .ok (.new 9, 3) := by decide +kernel
theorem dX5_init_8 : decode cX5_init 8 = .ok (.dup, 1) := by decide +kernel
theorem dX5_init_9 : decode cX5_init 9 = .ok (.sipush 200, 3) := by decide +kernel
theorem dX5_init_12 : decode cX5_init 12 = .ok (.bipush 20, 2) := by decide +kernel
theorem dX5_init_14 : decode cX5_init 14 = .ok (.invokespecial 11, 3) := by decide +kernel
theorem dX5_init_17 : decode cX5_init 17 = .ok (.putfield 14, 3) := by decide +kernel
theorem dX5_init_20 : decode cX5_init 20 = .ok (.aload_n 0, 1) := by decide +kernel
theorem dX5_init_21 : decode cX5_init 21 = .ok (.new 20, 3) := by decide +kernel
theorem dX5_init_24 : decode cX5_init 24 = .ok (.dup, 1) := by decide +kernel
theorem dX5_init_25 : decode cX5_init 25 = .ok (.sipush 200, 3) := by decide +kernel
theorem dX5_init_28 : decode cX5_init 28 = .ok (.invokespecial 22, 3) := by decide +kernel
theorem dX5_init_31 : decode cX5_init 31 = .ok (.putfield 25, 3) := by decide +kernel
theorem dX5_init_34 : decode cX5_init 34 = .ok (.aload_n 0, 1) := by decide +kernel
theorem dX5_init_35 : decode cX5_init 35 = .ok (.bipush 21, 2) := by decide +kernel
theorem dX5_init_37 : decode cX5_init 37 = .ok (.newarray .int, 2) := by decide +kernel
theorem dX5_init_39 : decode cX5_init 39 = .ok (.putfield 29, 3) := by decide +kernel
theorem dX5_init_42 : decode cX5_init 42 = .ok (.aload_n 0, 1) := by decide +kernel
theorem dX5_init_43 : decode cX5_init 43 = .ok (.bipush 20, 2) := by decide +kernel
theorem dX5_init_45 : decode cX5_init 45 = .ok (.newarray .int, 2) := by decide +kernel
theorem dX5_init_47 : decode cX5_init 47 = .ok (.putfield 33, 3) := by decide +kernel
theorem dX5_init_50 : decode cX5_init 50 = .ok (.aload_n 0, 1) := by decide +kernel
theorem dX5_init_51 : decode cX5_init 51 = .ok (.sipush 300, 3) := by decide +kernel
theorem dX5_init_54 : decode cX5_init 54 = .ok (.newarray .int, 2) := by decide +kernel
theorem dX5_init_56 : decode cX5_init 56 = .ok (.putfield 36, 3) := by decide +kernel
theorem dX5_init_59 : decode cX5_init 59 = .ok (.aload_n 0, 1) := by decide +kernel
theorem dX5_init_60 : decode cX5_init 60 = .ok (.sipush 1800, 3) := by decide +kernel
theorem dX5_init_63 : decode cX5_init 63 = .ok (.newarray .int, 2) := by decide +kernel
theorem dX5_init_65 : decode cX5_init 65 = .ok (.putfield 39, 3) := by decide +kernel
theorem dX5_init_68 : decode cX5_init 68 = .ok (.aload_n 0, 1) := by decide +kernel
theorem dX5_init_69 : decode cX5_init 69 = .ok (.sipush 400, 3) := by decide +kernel
theorem dX5_init_72 : decode cX5_init 72 = .ok (.newarray .int, 2) := by decide +kernel
theorem dX5_init_74 : decode cX5_init 74 = .ok (.putfield 42, 3) := by decide +kernel
theorem dX5_init_77 : decode cX5_init 77 = .ok (.aload_n 0, 1) := by decide +kernel
theorem dX5_init_78 : decode cX5_init 78 = .ok (.sipush 200, 3) := by decide +kernel
theorem dX5_init_81 : decode cX5_init 81 = .ok (.newarray .int, 2) := by decide +kernel
theorem dX5_init_83 : decode cX5_init 83 = .ok (.putfield 45, 3) := by decide +kernel
theorem dX5_init_86 : decode cX5_init 86 = .ok (.aload_n 0, 1) := by decide +kernel
theorem dX5_init_87 : decode cX5_init 87 = .ok (.sipush 200, 3) := by decide +kernel
theorem dX5_init_90 : decode cX5_init 90 = .ok (.newarray .int, 2) := by decide +kernel
theorem dX5_init_92 : decode cX5_init 92 = .ok (.putfield 48, 3) := by decide +kernel
theorem dX5_init_95 : decode cX5_init 95 = .ok (.aload_n 0, 1) := by decide +kernel
theorem dX5_init_96 : decode cX5_init 96 = .ok (.sipush 200, 3) := by decide +kernel
theorem dX5_init_99 : decode cX5_init 99 = .ok (.newarray .int, 2) := by decide +kernel
theorem dX5_init_101 : decode cX5_init 101 = .ok (.putfield 51, 3) := by decide +kernel
theorem dX5_init_104 : decode cX5_init 104 = .ok (.aload_n 0, 1) := by decide +kernel
theorem dX5_init_105 : decode cX5_init 105 = .ok (.sipush 200, 3) := by decide +kernel
theorem dX5_init_108 : decode cX5_init 108 = .ok (.newarray .int, 2) := by decide +kernel
theorem dX5_init_110 : decode cX5_init 110 = .ok (.putfield 54, 3) := by decide +kernel
theorem dX5_init_113 : decode cX5_init 113 = .ok (.aload_n 0, 1) := by decide +kernel
theorem dX5_init_114 : decode cX5_init 114 = .ok (.bipush 20, 2) := by decide +kernel
theorem dX5_init_116 : decode cX5_init 116 = .ok (.newarray .int, 2) := by decide +kernel
theorem dX5_init_118 : decode cX5_init 118 = .ok (.putfield 57, 3) := by decide +kernel
theorem dX5_init_121 : decode cX5_init 121 = .ok (.return_, 1) := by decide +kernel
theorem dX5_numberAll_0 : decode cX5_numberAll 0 = .ok (.aload_n 0, 1) := by decide +kernel
theorem dX5_numberAll_1 : decode cX5_numberAll 1 = .ok (.getfield 14, 3) := by decide +kernel
theorem dX5_numberAll_4 : decode cX5_numberAll 4 = .ok (.invokevirtual 60, 3) := by decide +kernel
theorem dX5_numberAll_7 : decode cX5_numberAll 7 = .ok (.aload_n 0, 1) := by decide +kernel
theorem dX5_numberAll_8 : decode cX5_numberAll 8 = .ok (.getfield 25, 3) := by decide +kernel
theorem dX5_numberAll_11 : decode cX5_numberAll 11 = .ok (.invokevirtual 63, 3) := by decide +kernel
theorem dX5_numberAll_14 : decode cX5_numberAll 14 = .ok (.aload_n 0, 1) := by decide +kernel
theorem dX5_numberAll_15 : decode cX5_numberAll 15 = .ok (.iconst 0, 1) := by decide +kernel
theorem dX5_numberAll_16 : decode cX5_numberAll 16 = .ok (.putfield 66, 3) := by decide +kernel
theorem dX5_numberAll_19 : decode cX5_numberAll 19 = .ok (.aload_n 0, 1) := by decide +kernel
theorem dX5_numberAll_20 : decode cX5_numberAll 20 = .ok (.getfield 29, 3) := by decide +kernel
theorem dX5_numberAll_23 : decode cX5_numberAll 23 = .ok (.iconst 0, 1) := by decide +kernel
theorem dX5_numberAll_24 : decode cX5_numberAll 24 = .ok (.iconst 0, 1) := by decide +kernel
theorem dX5_numberAll_25 : decode cX5_numberAll 25 = .ok (.iastore, 1) := by decide +kernel
theorem dX5_numberAll_26 : decode cX5_numberAll 26 = .ok (.aload_n 0, 1) := by decide +kernel
theorem dX5_numberAll_27 : decode cX5_numberAll 27 = .ok (.getfield 39, 3) := by decide +kernel
theorem dX5_numberAll_30 : decode cX5_numberAll 30 = .ok (.iconst 0, 1) := by decide +kernel
theorem dX5_numberAll_31 : decode cX5_numberAll 31 = .ok (.aload_n 1, 1) := by decide +kernel
theorem dX5_numberAll_32 : decode cX5_numberAll 32 = .ok (.getfield 70, 3) := by decide +kernel
theorem dX5_numberAll_35 : decode cX5_numberAll 35 = .ok (.getfield 73, 3) := by decide +kernel
theorem dX5_numberAll_38 : decode cX5_numberAll 38 = .ok (.iconst (-1), 1) := by decide +kernel
theorem dX5_numberAll_39 : decode cX5_numberAll 39 = .ok (.invokestatic 76, 3) := by decide +kernel
theorem dX5_numberAll_42 : decode cX5_numberAll 42 = .ok (.iconst 0, 1) := by decide +kernel
theorem dX5_numberAll_43 : decode cX5_numberAll 43 = .ok (.istore 4, 2) := by decide +kernel
theorem dX5_numberAll_45 : decode cX5_numberAll 45 = .ok (.iload 4, 2) := by decide +kernel
theorem dX5_numberAll_47 : decode cX5_numberAll 47 = .ok (.aload_n 2, 1) := by decide +kernel
theorem dX5_numberAll_48 : decode cX5_numberAll 48 = .ok (.getfield 82, 3) := by decide +kernel
theorem dX5_numberAll_51 : decode cX5_numberAll 51 = .ok (.if_icmp .ge 147, 3) := by decide +kernel
theorem dX5_numberAll_54 : decode cX5_numberAll 54 = .ok (.iload_n 3, 1) := by decide +kernel
theorem dX5_numberAll_55 : decode cX5_numberAll 55 = .ok (.iload 4, 2) := by decide +kernel
theorem dX5_numberAll_57 : decode cX5_numberAll 57 = .ok (.ishr, 1) := by decide +kernel
theorem dX5_numberAll_58 : decode cX5_numberAll 58 = .ok (.iconst 1, 1) := by decide +kernel
theorem dX5_numberAll_59 : decode cX5_numberAll 59 = .ok (.iand, 1) := by decide +kernel
theorem dX5_numberAll_60 : decode cX5_numberAll 60 = .ok (.ifCond .eq 15, 3) := by decide +kernel
theorem dX5_numberAll_63 : decode cX5_numberAll 63 = .ok (.aload_n 2, 1) := by decide +kernel
theorem dX5_numberAll_64 : decode cX5_numberAll 64 = .ok (.getfield 87, 3) := by decide +kernel
theorem dX5_numberAll_67 : decode cX5_numberAll 67 = .ok (.iload 4, 2) := by decide +kernel
theorem dX5_numberAll_69 : decode cX5_numberAll 69 = .ok (.iaload, 1) := by decide +kernel
theorem dX5_numberAll_70 : decode cX5_numberAll 70 = .ok (.iconst 1, 1) := by decide +kernel
theorem dX5_numberAll_71 : decode cX5_numberAll 71 = .ok (.iadd, 1) := by decide +kernel
theorem dX5_numberAll_72 : decode cX5_numberAll 72 = .ok (.goto 4, 3) := by decide +kernel
theorem dX5_numberAll_75 : decode cX5_numberAll 75 = .ok (.iconst 0, 1) := by decide +kernel
theorem dX5_numberAll_76 : decode cX5_numberAll 76 = .ok (.istore 5, 2) := by decide +kernel
theorem dX5_numberAll_78 : decode cX5_numberAll 78 = .ok (.aload_n 2, 1) := by decide +kernel
theorem dX5_numberAll_79 : decode cX5_numberAll 79 = .ok (.getfield 90, 3) := by decide +kernel
theorem dX5_numberAll_82 : decode cX5_numberAll 82 = .ok (.iload 4, 2) := by decide +kernel
theorem dX5_numberAll_84 : decode cX5_numberAll 84 = .ok (.iaload, 1) := by decide +kernel
theorem dX5_numberAll_85 : decode cX5_numberAll 85 = .ok (.istore 6, 2) := by decide +kernel
theorem dX5_numberAll_87 : decode cX5_numberAll 87 = .ok (.iload 5, 2) := by decide +kernel
theorem dX5_numberAll_89 : decode cX5_numberAll 89 = .ok (.ifCond .le 103, 3) := by decide +kernel
theorem dX5_numberAll_92 : decode cX5_numberAll 92 = .ok (.aload_n 1, 1) := by decide +kernel
theorem dX5_numberAll_93 : decode cX5_numberAll 93 = .ok (.getfield 70, 3) := by decide +kernel
theorem dX5_numberAll_96 : decode cX5_numberAll 96 = .ok (.aload_n 1, 1) := by decide +kernel
theorem dX5_numberAll_97 : decode cX5_numberAll 97 = .ok (.getfield 93, 3) := by decide +kernel
theorem dX5_numberAll_100 : decode cX5_numberAll 100 = .ok (.iload 6, 2) := by decide +kernel
theorem dX5_numberAll_102 : decode cX5_numberAll 102 = .ok (.iaload, 1) := by decide +kernel
theorem dX5_numberAll_103 : decode cX5_numberAll 103 = .ok (.invokevirtual 96, 3) := by decide +kernel
theorem dX5_numberAll_106 : decode cX5_numberAll 106 = .ok (.ifCond .eq 21, 3) := by decide +kernel
theorem dX5_numberAll_109 : decode cX5_numberAll 109 = .ok (.aload_n 1, 1) := by decide +kernel
theorem dX5_numberAll_110 : decode cX5_numberAll 110 = .ok (.getfield 70, 3) := by decide +kernel
theorem dX5_numberAll_113 : decode cX5_numberAll 113 = .ok (.getfield 100, 3) := by decide +kernel
theorem dX5_numberAll_116 : decode cX5_numberAll 116 = .ok (.aload_n 1, 1) := by decide +kernel
theorem dX5_numberAll_117 : decode cX5_numberAll 117 = .ok (.getfield 93, 3) := by decide +kernel
theorem dX5_numberAll_120 : decode cX5_numberAll 120 = .ok (.iload 6, 2) := by decide +kernel
theorem dX5_numberAll_122 : decode cX5_numberAll 122 = .ok (.iaload, 1) := by decide +kernel
theorem dX5_numberAll_123 : decode cX5_numberAll 123 = .ok (.iaload, 1) := by decide +kernel
theorem dX5_numberAll_124 : decode cX5_numberAll 124 = .ok (.goto 4, 3) := by decide +kernel
theorem dX5_numberAll_127 : decode cX5_numberAll 127 = .ok (.iconst (-1), 1) := by decide +kernel
theorem dX5_numberAll_128 : decode cX5_numberAll 128 = .ok (.istore 7, 2) := by decide +kernel
theorem dX5_numberAll_130 : decode cX5_numberAll 130 = .ok (.iload 7, 2) := by decide +kernel
theorem dX5_numberAll_132 : decode cX5_numberAll 132 = .ok (.ifCond .lt 26, 3) := by decide +kernel
theorem dX5_numberAll_135 : decode cX5_numberAll 135 = .ok (.aload_n 0, 1) := by decide +kernel
theorem dX5_numberAll_136 : decode cX5_numberAll 136 = .ok (.getfield 39, 3) := by decide +kernel
theorem dX5_numberAll_139 : decode cX5_numberAll 139 = .ok (.iload 7, 2) := by decide +kernel
theorem dX5_numberAll_141 : decode cX5_numberAll 141 = .ok (.iaload, 1) := by decide +kernel
theorem dX5_numberAll_142 : decode cX5_numberAll 142 = .ok (.ifCond .ge 19, 3) := by decide +kernel
theorem dX5_numberAll_145 : decode cX5_numberAll 145 = .ok (.aload_n 0, 1) := by decide +kernel
theorem dX5_numberAll_146 : decode cX5_numberAll 146 = .ok (.aload_n 1, 1) := by decide +kernel
theorem dX5_numberAll_147 : decode cX5_numberAll 147 = .ok (.getfield 70, 3) := by decide +kernel
theorem dX5_numberAll_150 : decode cX5_numberAll 150 = .ok (.iload 7, 2) := by decide +kernel
theorem dX5_numberAll_152 : decode cX5_numberAll 152 = .ok (.invokevirtual 103, 3) := by decide +kernel
theorem dX5_numberAll_155 : decode cX5_numberAll 155 = .ok (.ifCond .ne 6, 3) := by decide +kernel
theorem dX5_numberAll_158 : decode cX5_numberAll 158 = .ok (.bipush (-3), 2) := by decide +kernel
theorem dX5_numberAll_160 : decode cX5_numberAll 160 = .ok (.ireturn, 1) := by decide +kernel
theorem dX5_numberAll_161 : decode cX5_numberAll 161 = .ok (.aload_n 0, 1) := by decide +kernel
theorem dX5_numberAll_162 : decode cX5_numberAll 162 = .ok (.getfield 36, 3) := by decide +kernel
theorem dX5_numberAll_165 : decode cX5_numberAll 165 = .ok (.iload 6, 2) := by decide +kernel
theorem dX5_numberAll_167 : decode cX5_numberAll 167 = .ok (.aload_n 0, 1) := by decide +kernel
theorem dX5_numberAll_168 : decode cX5_numberAll 168 = .ok (.getfield 14, 3) := by decide +kernel
theorem dX5_numberAll_171 : decode cX5_numberAll 171 = .ok (.getfield 107, 3) := by decide +kernel
theorem dX5_numberAll_174 : decode cX5_numberAll 174 = .ok (.aload_n 0, 1) := by decide +kernel
theorem dX5_numberAll_175 : decode cX5_numberAll 175 = .ok (.getfield 39, 3) := by decide +kernel
theorem dX5_numberAll_178 : decode cX5_numberAll 178 = .ok (.iload 7, 2) := by decide +kernel
theorem dX5_numberAll_180 : decode cX5_numberAll 180 = .ok (.iaload, 1) := by decide +kernel
theorem dX5_numberAll_181 : decode cX5_numberAll 181 = .ok (.iaload, 1) := by decide +kernel
theorem dX5_numberAll_182 : decode cX5_numberAll 182 = .ok (.iastore, 1) := by decide +kernel
theorem dX5_numberAll_183 : decode cX5_numberAll 183 = .ok (.iinc 5 (-1), 3) := by decide +kernel
theorem dX5_numberAll_186 : decode cX5_numberAll 186 = .ok (.iinc 6 1, 3) := by decide +kernel
theorem dX5_numberAll_189 : decode cX5_numberAll 189 = .ok (.goto (-102), 3) := by decide +kernel
theorem dX5_numberAll_192 : decode cX5_numberAll 192 = .ok (.iinc 4 1, 3) := by decide +kernel
theorem dX5_numberAll_195 : decode cX5_numberAll 195 = .ok (.goto (-150), 3) := by decide +kernel
theorem dX5_numberAll_198 : decode cX5_numberAll 198 = .ok (.aload_n 0, 1) := by decide +kernel
theorem dX5_numberAll_199 : decode cX5_numberAll 199 = .ok (.aload_n 1, 1) := by decide +kernel
theorem dX5_numberAll_200 : decode cX5_numberAll 200 = .ok (.getfield 70, 3) := by decide +kernel
theorem dX5_numberAll_203 : decode cX5_numberAll 203 = .ok (.invokevirtual 110, 3) := by decide +kernel
theorem dX5_numberAll_206 : decode cX5_numberAll 206 = .ok (.aload_n 0, 1) := by decide +kernel
theorem dX5_numberAll_207 : decode cX5_numberAll 207 = .ok (.aload_n 1, 1) := by decide +kernel
theorem dX5_numberAll_208 : decode cX5_numberAll 208 = .ok (.invokevirtual 114, 3) := by decide +kernel
theorem dX5_numberAll_211 : decode cX5_numberAll 211 = .ok (.iconst 0, 1) := by decide +kernel
theorem dX5_numberAll_212 : decode cX5_numberAll 212 = .ok (.ireturn, 1) := by decide +kernel
theorem dX5_numberCorner_0 : decode cX5_numberCorner 0 = .ok (.aload_n 0, 1) := by decide +kernel
theorem dX5_numberCorner_1 : decode cX5_numberCorner 1 = .ok (.getfield 14, 3) := by decide +kernel
theorem dX5_numberCorner_4 : decode cX5_numberCorner 4 = .ok (.invokevirtual 118, 3) := by decide +kernel
theorem dX5_numberCorner_7 : decode cX5_numberCorner 7 = .ok (.istore_n 3, 1) := by decide +kernel
theorem dX5_numberCorner_8 : decode cX5_numberCorner 8 = .ok (.iload_n 3, 1) := by decide +kernel
theorem dX5_numberCorner_9 : decode cX5_numberCorner 9 = .ok (.ifCond .ge 5, 3) := by decide +kernel
theorem dX5_numberCorner_12 : decode cX5_numberCorner 12 = .ok (.iconst 0, 1) := by decide +kernel
theorem dX5_numberCorner_13 : decode cX5_numberCorner 13 = .ok (.ireturn, 1) := by decide +kernel
theorem dX5_numberCorner_14 : decode cX5_numberCorner 14 = .ok (.aload_n 1, 1) := by decide +kernel
theorem dX5_numberCorner_15 : decode cX5_numberCorner 15 = .ok (.iload_n 2, 1) := by decide +kernel
theorem dX5_numberCorner_16 : decode cX5_numberCorner 16 = .ok (.invokestatic 122, 3) := by decide +kernel
theorem dX5_numberCorner_19 : decode cX5_numberCorner 19 = .ok (.istore 4, 2) := by decide +kernel
theorem dX5_numberCorner_21 : decode cX5_numberCorner 21 = .ok (.iconst (-1), 1) := by decide +kernel
theorem dX5_numberCorner_22 : decode cX5_numberCorner 22 = .ok (.istore 5, 2) := by decide +kernel
theorem dX5_numberCorner_24 : decode cX5_numberCorner 24 = .ok (.aload_n 0, 1) := by decide +kernel
theorem dX5_numberCorner_25 : decode cX5_numberCorner 25 = .ok (.getfield 33, 3) := by decide +kernel
theorem dX5_numberCorner_28 : decode cX5_numberCorner 28 = .ok (.iload_n 3, 1) := by decide +kernel
theorem dX5_numberCorner_29 : decode cX5_numberCorner 29 = .ok (.iconst 0, 1) := by decide +kernel
theorem dX5_numberCorner_30 : decode cX5_numberCorner 30 = .ok (.iastore, 1) := by decide +kernel
theorem dX5_numberCorner_31 : decode cX5_numberCorner 31 = .ok (.iconst 0, 1) := by decide +kernel
theorem dX5_numberCorner_32 : decode cX5_numberCorner 32 = .ok (.istore 6, 2) := by decide +kernel
theorem dX5_numberCorner_34 : decode cX5_numberCorner 34 = .ok (.iload 6, 2) := by decide +kernel
theorem dX5_numberCorner_36 : decode cX5_numberCorner 36 = .ok (.aload_n 1, 1) := by decide +kernel
theorem dX5_numberCorner_37 : decode cX5_numberCorner 37 = .ok (.getfield 73, 3) := by decide +kernel
theorem dX5_numberCorner_40 : decode cX5_numberCorner 40 = .ok (.if_icmp .ge 107, 3) := by decide +kernel
theorem dX5_numberCorner_43 : decode cX5_numberCorner 43 = .ok (.aload_n 0, 1) := by decide +kernel
theorem dX5_numberCorner_44 : decode cX5_numberCorner 44 = .ok (.getfield 14, 3) := by decide +kernel
theorem dX5_numberCorner_47 : decode cX5_numberCorner 47 = .ok (.iload_n 3, 1) := by decide +kernel
theorem dX5_numberCorner_48 : decode cX5_numberCorner 48 = .ok (.invokevirtual 126, 3) := by decide +kernel
theorem dX5_numberCorner_51 : decode cX5_numberCorner 51 = .ok (.istore 7, 2) := by decide +kernel
theorem dX5_numberCorner_53 : decode cX5_numberCorner 53 = .ok (.iload 7, 2) := by decide +kernel
theorem dX5_numberCorner_55 : decode cX5_numberCorner 55 = .ok (.ifCond .ge 5, 3) := by decide +kernel
theorem dX5_numberCorner_58 : decode cX5_numberCorner 58 = .ok (.iconst 0, 1) := by decide +kernel
theorem dX5_numberCorner_59 : decode cX5_numberCorner 59 = .ok (.ireturn, 1) := by decide +kernel
theorem dX5_numberCorner_60 : decode cX5_numberCorner 60 = .ok (.aload_n 0, 1) := by decide +kernel
theorem dX5_numberCorner_61 : decode cX5_numberCorner 61 = .ok (.getfield 39, 3) := by decide +kernel
theorem dX5_numberCorner_64 : decode cX5_numberCorner 64 = .ok (.iload 4, 2) := by decide +kernel
theorem dX5_numberCorner_66 : decode cX5_numberCorner 66 = .ok (.iload 7, 2) := by decide +kernel
theorem dX5_numberCorner_68 : decode cX5_numberCorner 68 = .ok (.iastore, 1) := by decide +kernel
theorem dX5_numberCorner_69 : decode cX5_numberCorner 69 = .ok (.aload_n 0, 1) := by decide +kernel
theorem dX5_numberCorner_70 : decode cX5_numberCorner 70 = .ok (.iload 5, 2) := by decide +kernel
theorem dX5_numberCorner_72 : decode cX5_numberCorner 72 = .ok (.iload 7, 2) := by decide +kernel
theorem dX5_numberCorner_74 : decode cX5_numberCorner 74 = .ok (.invokevirtual 130, 3) := by decide +kernel
theorem dX5_numberCorner_77 : decode cX5_numberCorner 77 = .ok (.iload 7, 2) := by decide +kernel
theorem dX5_numberCorner_79 : decode cX5_numberCorner 79 = .ok (.istore 5, 2) := by decide +kernel
theorem dX5_numberCorner_81 : decode cX5_numberCorner 81 = .ok (.aload_n 1, 1) := by decide +kernel
theorem dX5_numberCorner_82 : decode cX5_numberCorner 82 = .ok (.getfield 133, 3) := by decide +kernel
theorem dX5_numberCorner_85 : decode cX5_numberCorner 85 = .ok (.iload 4, 2) := by decide +kernel
theorem dX5_numberCorner_87 : decode cX5_numberCorner 87 = .ok (.iaload, 1) := by decide +kernel
theorem dX5_numberCorner_88 : decode cX5_numberCorner 88 = .ok (.ifCond .ge 6, 3) := by decide +kernel
theorem dX5_numberCorner_91 : decode cX5_numberCorner 91 = .ok (.goto 56, 3) := by decide +kernel
theorem dX5_numberCorner_94 : decode cX5_numberCorner 94 = .ok (.aload_n 1, 1) := by decide +kernel
theorem dX5_numberCorner_95 : decode cX5_numberCorner 95 = .ok (.getfield 100, 3) := by decide +kernel
theorem dX5_numberCorner_98 : decode cX5_numberCorner 98 = .ok (.aload_n 1, 1) := by decide +kernel
theorem dX5_numberCorner_99 : decode cX5_numberCorner 99 = .ok (.getfield 133, 3) := by decide +kernel
theorem dX5_numberCorner_102 : decode cX5_numberCorner 102 = .ok (.iload 4, 2) := by decide +kernel
theorem dX5_numberCorner_104 : decode cX5_numberCorner 104 = .ok (.iaload, 1) := by decide +kernel
theorem dX5_numberCorner_105 : decode cX5_numberCorner 105 = .ok (.iaload, 1) := by decide +kernel
theorem dX5_numberCorner_106 : decode cX5_numberCorner 106 = .ok (.istore 4, 2) := by decide +kernel
theorem dX5_numberCorner_108 : decode cX5_numberCorner 108 = .ok (.aload_n 0, 1) := by decide +kernel
theorem dX5_numberCorner_109 : decode cX5_numberCorner 109 = .ok (.getfield 39, 3) := by decide +kernel
theorem dX5_numberCorner_112 : decode cX5_numberCorner 112 = .ok (.iload 4, 2) := by decide +kernel
theorem dX5_numberCorner_114 : decode cX5_numberCorner 114 = .ok (.iaload, 1) := by decide +kernel
theorem dX5_numberCorner_115 : decode cX5_numberCorner 115 = .ok (.ifCond .lt 26, 3) := by decide +kernel
theorem dX5_numberCorner_118 : decode cX5_numberCorner 118 = .ok (.aload_n 0, 1) := by decide +kernel
theorem dX5_numberCorner_119 : decode cX5_numberCorner 119 = .ok (.getfield 33, 3) := by decide +kernel
theorem dX5_numberCorner_122 : decode cX5_numberCorner 122 = .ok (.iload_n 3, 1) := by decide +kernel
theorem dX5_numberCorner_123 : decode cX5_numberCorner 123 = .ok (.iconst 1, 1) := by decide +kernel
theorem dX5_numberCorner_124 : decode cX5_numberCorner 124 = .ok (.iastore, 1) := by decide +kernel
theorem dX5_numberCorner_125 : decode cX5_numberCorner 125 = .ok (.aload_n 0, 1) := by decide +kernel
theorem dX5_numberCorner_126 : decode cX5_numberCorner 126 = .ok (.iload 5, 2) := by decide +kernel
theorem dX5_numberCorner_128 : decode cX5_numberCorner 128 = .ok (.aload_n 0, 1) := by decide +kernel
theorem dX5_numberCorner_129 : decode cX5_numberCorner 129 = .ok (.getfield 39, 3) := by decide +kernel
theorem dX5_numberCorner_132 : decode cX5_numberCorner 132 = .ok (.iload 4, 2) := by decide +kernel
theorem dX5_numberCorner_134 : decode cX5_numberCorner 134 = .ok (.iaload, 1) := by decide +kernel
theorem dX5_numberCorner_135 : decode cX5_numberCorner 135 = .ok (.invokevirtual 130, 3) := by decide +kernel
theorem dX5_numberCorner_138 : decode cX5_numberCorner 138 = .ok (.goto 9, 3) := by decide +kernel
theorem dX5_numberCorner_141 : decode cX5_numberCorner 141 = .ok (.iinc 6 1, 3) := by decide +kernel
theorem dX5_numberCorner_144 : decode cX5_numberCorner 144 = .ok (.goto (-110), 3) := by decide +kernel
theorem dX5_numberCorner_147 : decode cX5_numberCorner 147 = .ok (.aload_n 0, 1) := by decide +kernel
theorem dX5_numberCorner_148 : decode cX5_numberCorner 148 = .ok (.iload_n 3, 1) := by decide +kernel
theorem dX5_numberCorner_149 : decode cX5_numberCorner 149 = .ok (.iconst 1, 1) := by decide +kernel
theorem dX5_numberCorner_150 : decode cX5_numberCorner 150 = .ok (.iadd, 1) := by decide +kernel
theorem dX5_numberCorner_151 : decode cX5_numberCorner 151 = .ok (.putfield 66, 3) := by decide +kernel
theorem dX5_numberCorner_154 : decode cX5_numberCorner 154 = .ok (.aload_n 0, 1) := by decide +kernel
theorem dX5_numberCorner_155 : decode cX5_numberCorner 155 = .ok (.getfield 29, 3) := by decide +kernel
theorem dX5_numberCorner_158 : decode cX5_numberCorner 158 = .ok (.aload_n 0, 1) := by decide +kernel
theorem dX5_numberCorner_159 : decode cX5_numberCorner 159 = .ok (.getfield 66, 3) := by decide +kernel
theorem dX5_numberCorner_162 : decode cX5_numberCorner 162 = .ok (.aload_n 0, 1) := by decide +kernel
theorem dX5_numberCorner_163 : decode cX5_numberCorner 163 = .ok (.getfield 14, 3) := by decide +kernel
theorem dX5_numberCorner_166 : decode cX5_numberCorner 166 = .ok (.getfield 73, 3) := by decide +kernel
theorem dX5_numberCorner_169 : decode cX5_numberCorner 169 = .ok (.iastore, 1) := by decide +kernel
theorem dX5_numberCorner_170 : decode cX5_numberCorner 170 = .ok (.iconst 1, 1) := by decide +kernel
theorem dX5_numberCorner_171 : decode cX5_numberCorner 171 = .ok (.ireturn, 1) := by decide +kernel
theorem dX5_follow_0 : decode cX5_follow 0 = .ok (.aload_n 0, 1) := by decide +kernel
theorem dX5_follow_1 : decode cX5_follow 1 = .ok (.getfield 14, 3) := by decide +kernel
theorem dX5_follow_4 : decode cX5_follow 4 = .ok (.iload_n 1, 1) := by decide +kernel
theorem dX5_follow_5 : decode cX5_follow 5 = .ok (.invokevirtual 96, 3) := by decide +kernel
theorem dX5_follow_8 : decode cX5_follow 8 = .ok (.ifCond .eq 34, 3) := by decide +kernel
theorem dX5_follow_11 : decode cX5_follow 11 = .ok (.aload_n 0, 1) := by decide +kernel
theorem dX5_follow_12 : decode cX5_follow 12 = .ok (.getfield 14, 3) := by decide +kernel
theorem dX5_follow_15 : decode cX5_follow 15 = .ok (.iload_n 2, 1) := by decide +kernel
theorem dX5_follow_16 : decode cX5_follow 16 = .ok (.invokevirtual 96, 3) := by decide +kernel
theorem dX5_follow_19 : decode cX5_follow 19 = .ok (.ifCond .eq 23, 3) := by decide +kernel
theorem dX5_follow_22 : decode cX5_follow 22 = .ok (.aload_n 0, 1) := by decide +kernel
theorem dX5_follow_23 : decode cX5_follow 23 = .ok (.getfield 14, 3) := by decide +kernel
theorem dX5_follow_26 : decode cX5_follow 26 = .ok (.getfield 133, 3) := by decide +kernel
theorem dX5_follow_29 : decode cX5_follow 29 = .ok (.iload_n 1, 1) := by decide +kernel
theorem dX5_follow_30 : decode cX5_follow 30 = .ok (.iload_n 2, 1) := by decide +kernel
theorem dX5_follow_31 : decode cX5_follow 31 = .ok (.iastore, 1) := by decide +kernel
theorem dX5_follow_32 : decode cX5_follow 32 = .ok (.aload_n 0, 1) := by decide +kernel
theorem dX5_follow_33 : decode cX5_follow 33 = .ok (.getfield 14, 3) := by decide +kernel
theorem dX5_follow_36 : decode cX5_follow 36 = .ok (.getfield 136, 3) := by decide +kernel
theorem dX5_follow_39 : decode cX5_follow 39 = .ok (.iload_n 2, 1) := by decide +kernel
theorem dX5_follow_40 : decode cX5_follow 40 = .ok (.iload_n 1, 1) := by decide +kernel
theorem dX5_follow_41 : decode cX5_follow 41 = .ok (.iastore, 1) := by decide +kernel
theorem dX5_follow_42 : decode cX5_follow 42 = .ok (.return_, 1) := by decide +kernel
theorem dX5_firstOf_0 : decode cX5_firstOf 0 = .ok (.iload_n 1, 1) := by decide +kernel
theorem dX5_firstOf_1 : decode cX5_firstOf 1 = .ok (.istore_n 2, 1) := by decide +kernel
theorem dX5_firstOf_2 : decode cX5_firstOf 2 = .ok (.iconst 0, 1) := by decide +kernel
theorem dX5_firstOf_3 : decode cX5_firstOf 3 = .ok (.istore_n 3, 1) := by decide +kernel
theorem dX5_firstOf_4 : decode cX5_firstOf 4 = .ok (.iload_n 3, 1) := by decide +kernel
theorem dX5_firstOf_5 : decode cX5_firstOf 5 = .ok (.aload_n 0, 1) := by decide +kernel
theorem dX5_firstOf_6 : decode cX5_firstOf 6 = .ok (.getfield 73, 3) := by decide +kernel
theorem dX5_firstOf_9 : decode cX5_firstOf 9 = .ok (.if_icmp .ge 38, 3) := by decide +kernel
theorem dX5_firstOf_12 : decode cX5_firstOf 12 = .ok (.aload_n 0, 1) := by decide +kernel
theorem dX5_firstOf_13 : decode cX5_firstOf 13 = .ok (.getfield 136, 3) := by decide +kernel
theorem dX5_firstOf_16 : decode cX5_firstOf 16 = .ok (.iload_n 2, 1) := by decide +kernel
theorem dX5_firstOf_17 : decode cX5_firstOf 17 = .ok (.iaload, 1) := by decide +kernel
theorem dX5_firstOf_18 : decode cX5_firstOf 18 = .ok (.ifCond .lt 29, 3) := by decide +kernel
theorem dX5_firstOf_21 : decode cX5_firstOf 21 = .ok (.aload_n 0, 1) := by decide +kernel
theorem dX5_firstOf_22 : decode cX5_firstOf 22 = .ok (.getfield 100, 3) := by decide +kernel
theorem dX5_firstOf_25 : decode cX5_firstOf 25 = .ok (.aload_n 0, 1) := by decide +kernel
theorem dX5_firstOf_26 : decode cX5_firstOf 26 = .ok (.getfield 136, 3) := by decide +kernel
theorem dX5_firstOf_29 : decode cX5_firstOf 29 = .ok (.iload_n 2, 1) := by decide +kernel
theorem dX5_firstOf_30 : decode cX5_firstOf 30 = .ok (.iaload, 1) := by decide +kernel
theorem dX5_firstOf_31 : decode cX5_firstOf 31 = .ok (.iaload, 1) := by decide +kernel
theorem dX5_firstOf_32 : decode cX5_firstOf 32 = .ok (.istore_n 2, 1) := by decide +kernel
theorem dX5_firstOf_33 : decode cX5_firstOf 33 = .ok (.iload_n 2, 1) := by decide +kernel
theorem dX5_firstOf_34 : decode cX5_firstOf 34 = .ok (.iload_n 1, 1) := by decide +kernel
theorem dX5_firstOf_35 : decode cX5_firstOf 35 = .ok (.if_icmp .ne 6, 3) := by decide +kernel
theorem dX5_firstOf_38 : decode cX5_firstOf 38 = .ok (.goto 9, 3) := by decide +kernel
theorem dX5_firstOf_41 : decode cX5_firstOf 41 = .ok (.iinc 3 1, 3) := by decide +kernel
theorem dX5_firstOf_44 : decode cX5_firstOf 44 = .ok (.goto (-40), 3) := by decide +kernel
theorem dX5_firstOf_47 : decode cX5_firstOf 47 = .ok (.iload_n 2, 1) := by decide +kernel
theorem dX5_firstOf_48 : decode cX5_firstOf 48 = .ok (.ireturn, 1) := by decide +kernel
theorem dX5_numberLanes_0 : decode cX5_numberLanes 0 = .ok (.iconst 0, 1) := by decide +kernel
theorem dX5_numberLanes_1 : decode cX5_numberLanes 1 = .ok (.istore_n 2, 1) := by decide +kernel
theorem dX5_numberLanes_2 : decode cX5_numberLanes 2 = .ok (.iload_n 2, 1) := by decide +kernel
theorem dX5_numberLanes_3 : decode cX5_numberLanes 3 = .ok (.aload_n 1, 1) := by decide +kernel
theorem dX5_numberLanes_4 : decode cX5_numberLanes 4 = .ok (.getfield 73, 3) := by decide +kernel
theorem dX5_numberLanes_7 : decode cX5_numberLanes 7 = .ok (.if_icmp .ge 54, 3) := by decide +kernel
theorem dX5_numberLanes_10 : decode cX5_numberLanes 10 = .ok (.aload_n 0, 1) := by decide +kernel
theorem dX5_numberLanes_11 : decode cX5_numberLanes 11 = .ok (.getfield 39, 3) := by decide +kernel
theorem dX5_numberLanes_14 : decode cX5_numberLanes 14 = .ok (.iload_n 2, 1) := by decide +kernel
theorem dX5_numberLanes_15 : decode cX5_numberLanes 15 = .ok (.iaload, 1) := by decide +kernel
theorem dX5_numberLanes_16 : decode cX5_numberLanes 16 = .ok (.istore_n 3, 1) := by decide +kernel
theorem dX5_numberLanes_17 : decode cX5_numberLanes 17 = .ok (.iload_n 3, 1) := by decide +kernel
theorem dX5_numberLanes_18 : decode cX5_numberLanes 18 = .ok (.ifCond .lt 37, 3) := by decide +kernel
theorem dX5_numberLanes_21 : decode cX5_numberLanes 21 = .ok (.aload_n 1, 1) := by decide +kernel
theorem dX5_numberLanes_22 : decode cX5_numberLanes 22 = .ok (.getfield 139, 3) := by decide +kernel
theorem dX5_numberLanes_25 : decode cX5_numberLanes 25 = .ok (.iload_n 2, 1) := by decide +kernel
theorem dX5_numberLanes_26 : decode cX5_numberLanes 26 = .ok (.iaload, 1) := by decide +kernel
theorem dX5_numberLanes_27 : decode cX5_numberLanes 27 = .ok (.ifCond .lt 28, 3) := by decide +kernel
theorem dX5_numberLanes_30 : decode cX5_numberLanes 30 = .ok (.aload_n 0, 1) := by decide +kernel
theorem dX5_numberLanes_31 : decode cX5_numberLanes 31 = .ok (.getfield 14, 3) := by decide +kernel
theorem dX5_numberLanes_34 : decode cX5_numberLanes 34 = .ok (.getfield 139, 3) := by decide +kernel
theorem dX5_numberLanes_37 : decode cX5_numberLanes 37 = .ok (.iload_n 3, 1) := by decide +kernel
theorem dX5_numberLanes_38 : decode cX5_numberLanes 38 = .ok (.aload_n 0, 1) := by decide +kernel
theorem dX5_numberLanes_39 : decode cX5_numberLanes 39 = .ok (.getfield 39, 3) := by decide +kernel
theorem dX5_numberLanes_42 : decode cX5_numberLanes 42 = .ok (.aload_n 1, 1) := by decide +kernel
theorem dX5_numberLanes_43 : decode cX5_numberLanes 43 = .ok (.getfield 100, 3) := by decide +kernel
theorem dX5_numberLanes_46 : decode cX5_numberLanes 46 = .ok (.aload_n 1, 1) := by decide +kernel
theorem dX5_numberLanes_47 : decode cX5_numberLanes 47 = .ok (.getfield 139, 3) := by decide +kernel
theorem dX5_numberLanes_50 : decode cX5_numberLanes 50 = .ok (.iload_n 2, 1) := by decide +kernel
theorem dX5_numberLanes_51 : decode cX5_numberLanes 51 = .ok (.iaload, 1) := by decide +kernel
theorem dX5_numberLanes_52 : decode cX5_numberLanes 52 = .ok (.iaload, 1) := by decide +kernel
theorem dX5_numberLanes_53 : decode cX5_numberLanes 53 = .ok (.iaload, 1) := by decide +kernel
theorem dX5_numberLanes_54 : decode cX5_numberLanes 54 = .ok (.iastore, 1) := by decide +kernel
theorem dX5_numberLanes_55 : decode cX5_numberLanes 55 = .ok (.iinc 2 1, 3) := by decide +kernel
theorem dX5_numberLanes_58 : decode cX5_numberLanes 58 = .ok (.goto (-56), 3) := by decide +kernel
theorem dX5_numberLanes_61 : decode cX5_numberLanes 61 = .ok (.return_, 1) := by decide +kernel
theorem dX5_numberedEnd_0 : decode cX5_numberedEnd 0 = .ok (.aload_n 1, 1) := by decide +kernel
theorem dX5_numberedEnd_1 : decode cX5_numberedEnd 1 = .ok (.getfield 70, 3) := by decide +kernel
theorem dX5_numberedEnd_4 : decode cX5_numberedEnd 4 = .ok (.iload_n 2, 1) := by decide +kernel
theorem dX5_numberedEnd_5 : decode cX5_numberedEnd 5 = .ok (.invokevirtual 96, 3) := by decide +kernel
theorem dX5_numberedEnd_8 : decode cX5_numberedEnd 8 = .ok (.ifCond .eq 20, 3) := by decide +kernel
theorem dX5_numberedEnd_11 : decode cX5_numberedEnd 11 = .ok (.aload_n 0, 1) := by decide +kernel
theorem dX5_numberedEnd_12 : decode cX5_numberedEnd 12 = .ok (.getfield 39, 3) := by decide +kernel
theorem dX5_numberedEnd_15 : decode cX5_numberedEnd 15 = .ok (.aload_n 1, 1) := by decide +kernel
theorem dX5_numberedEnd_16 : decode cX5_numberedEnd 16 = .ok (.getfield 70, 3) := by decide +kernel
theorem dX5_numberedEnd_19 : decode cX5_numberedEnd 19 = .ok (.getfield 100, 3) := by decide +kernel
theorem dX5_numberedEnd_22 : decode cX5_numberedEnd 22 = .ok (.iload_n 2, 1) := by decide +kernel
theorem dX5_numberedEnd_23 : decode cX5_numberedEnd 23 = .ok (.iaload, 1) := by decide +kernel
theorem dX5_numberedEnd_24 : decode cX5_numberedEnd 24 = .ok (.iaload, 1) := by decide +kernel
theorem dX5_numberedEnd_25 : decode cX5_numberedEnd 25 = .ok (.goto 4, 3) := by decide +kernel
theorem dX5_numberedEnd_28 : decode cX5_numberedEnd 28 = .ok (.iconst (-1), 1) := by decide +kernel
theorem dX5_numberedEnd_29 : decode cX5_numberedEnd 29 = .ok (.ireturn, 1) := by decide +kernel
theorem dX5_numberClaims_0 : decode cX5_numberClaims 0 = .ok (.aload_n 1, 1) := by decide +kernel
theorem dX5_numberClaims_1 : decode cX5_numberClaims 1 = .ok (.getfield 142, 3) := by decide +kernel
theorem dX5_numberClaims_4 : decode cX5_numberClaims 4 = .ok (.astore_n 2, 1) := by decide +kernel
theorem dX5_numberClaims_5 : decode cX5_numberClaims 5 = .ok (.iconst 0, 1) := by decide +kernel
theorem dX5_numberClaims_6 : decode cX5_numberClaims 6 = .ok (.istore_n 3, 1) := by decide +kernel
theorem dX5_numberClaims_7 : decode cX5_numberClaims 7 = .ok (.iload_n 3, 1) := by decide +kernel
theorem dX5_numberClaims_8 : decode cX5_numberClaims 8 = .ok (.bipush 8, 2) := by decide +kernel
theorem dX5_numberClaims_10 : decode cX5_numberClaims 10 = .ok (.if_icmp .ge 29, 3) := by decide +kernel
theorem dX5_numberClaims_13 : decode cX5_numberClaims 13 = .ok (.aload_n 0, 1) := by decide +kernel
theorem dX5_numberClaims_14 : decode cX5_numberClaims 14 = .ok (.getfield 25, 3) := by decide +kernel
theorem dX5_numberClaims_17 : decode cX5_numberClaims 17 = .ok (.getfield 143, 3) := by decide +kernel
theorem dX5_numberClaims_20 : decode cX5_numberClaims 20 = .ok (.iload_n 3, 1) := by decide +kernel
theorem dX5_numberClaims_21 : decode cX5_numberClaims 21 = .ok (.aload_n 0, 1) := by decide +kernel
theorem dX5_numberClaims_22 : decode cX5_numberClaims 22 = .ok (.aload_n 1, 1) := by decide +kernel
theorem dX5_numberClaims_23 : decode cX5_numberClaims 23 = .ok (.aload_n 2, 1) := by decide +kernel
theorem dX5_numberClaims_24 : decode cX5_numberClaims 24 = .ok (.getfield 143, 3) := by decide +kernel
theorem dX5_numberClaims_27 : decode cX5_numberClaims 27 = .ok (.iload_n 3, 1) := by decide +kernel
theorem dX5_numberClaims_28 : decode cX5_numberClaims 28 = .ok (.iaload, 1) := by decide +kernel
theorem dX5_numberClaims_29 : decode cX5_numberClaims 29 = .ok (.invokevirtual 146, 3) := by decide +kernel
theorem dX5_numberClaims_32 : decode cX5_numberClaims 32 = .ok (.iastore, 1) := by decide +kernel
theorem dX5_numberClaims_33 : decode cX5_numberClaims 33 = .ok (.iinc 3 1, 3) := by decide +kernel
theorem dX5_numberClaims_36 : decode cX5_numberClaims 36 = .ok (.goto (-29), 3) := by decide +kernel
theorem dX5_numberClaims_39 : decode cX5_numberClaims 39 = .ok (.aload_n 0, 1) := by decide +kernel
theorem dX5_numberClaims_40 : decode cX5_numberClaims 40 = .ok (.getfield 42, 3) := by decide +kernel
theorem dX5_numberClaims_43 : decode cX5_numberClaims 43 = .ok (.iconst 0, 1) := by decide +kernel
theorem dX5_numberClaims_44 : decode cX5_numberClaims 44 = .ok (.invokestatic 150, 3) := by decide +kernel
theorem dX5_numberClaims_47 : decode cX5_numberClaims 47 = .ok (.iconst 0, 1) := by decide +kernel
theorem dX5_numberClaims_48 : decode cX5_numberClaims 48 = .ok (.istore_n 3, 1) := by decide +kernel
theorem dX5_numberClaims_49 : decode cX5_numberClaims 49 = .ok (.iload_n 3, 1) := by decide +kernel
theorem dX5_numberClaims_50 : decode cX5_numberClaims 50 = .ok (.aload_n 2, 1) := by decide +kernel
theorem dX5_numberClaims_51 : decode cX5_numberClaims 51 = .ok (.getfield 153, 3) := by decide +kernel
theorem dX5_numberClaims_54 : decode cX5_numberClaims 54 = .ok (.if_icmp .ge 63, 3) := by decide +kernel
theorem dX5_numberClaims_57 : decode cX5_numberClaims 57 = .ok (.aload_n 0, 1) := by decide +kernel
theorem dX5_numberClaims_58 : decode cX5_numberClaims 58 = .ok (.aload_n 1, 1) := by decide +kernel
theorem dX5_numberClaims_59 : decode cX5_numberClaims 59 = .ok (.aload_n 2, 1) := by decide +kernel
theorem dX5_numberClaims_60 : decode cX5_numberClaims 60 = .ok (.getfield 156, 3) := by decide +kernel
theorem dX5_numberClaims_63 : decode cX5_numberClaims 63 = .ok (.iload_n 3, 1) := by decide +kernel
theorem dX5_numberClaims_64 : decode cX5_numberClaims 64 = .ok (.iaload, 1) := by decide +kernel
theorem dX5_numberClaims_65 : decode cX5_numberClaims 65 = .ok (.invokevirtual 146, 3) := by decide +kernel
theorem dX5_numberClaims_68 : decode cX5_numberClaims 68 = .ok (.istore 4, 2) := by decide +kernel
theorem dX5_numberClaims_70 : decode cX5_numberClaims 70 = .ok (.aload_n 0, 1) := by decide +kernel
theorem dX5_numberClaims_71 : decode cX5_numberClaims 71 = .ok (.aload_n 1, 1) := by decide +kernel
theorem dX5_numberClaims_72 : decode cX5_numberClaims 72 = .ok (.aload_n 2, 1) := by decide +kernel
theorem dX5_numberClaims_73 : decode cX5_numberClaims 73 = .ok (.getfield 159, 3) := by decide +kernel
theorem dX5_numberClaims_76 : decode cX5_numberClaims 76 = .ok (.iload_n 3, 1) := by decide +kernel
theorem dX5_numberClaims_77 : decode cX5_numberClaims 77 = .ok (.iaload, 1) := by decide +kernel
theorem dX5_numberClaims_78 : decode cX5_numberClaims 78 = .ok (.invokevirtual 146, 3) := by decide +kernel
theorem dX5_numberClaims_81 : decode cX5_numberClaims 81 = .ok (.istore 5, 2) := by decide +kernel
theorem dX5_numberClaims_83 : decode cX5_numberClaims 83 = .ok (.aload_n 0, 1) := by decide +kernel
theorem dX5_numberClaims_84 : decode cX5_numberClaims 84 = .ok (.iload 4, 2) := by decide +kernel
theorem dX5_numberClaims_86 : decode cX5_numberClaims 86 = .ok (.aload_n 0, 1) := by decide +kernel
theorem dX5_numberClaims_87 : decode cX5_numberClaims 87 = .ok (.iload 4, 2) := by decide +kernel
theorem dX5_numberClaims_89 : decode cX5_numberClaims 89 = .ok (.iload 5, 2) := by decide +kernel
theorem dX5_numberClaims_91 : decode cX5_numberClaims 91 = .ok (.invokevirtual 162, 3) := by decide +kernel
theorem dX5_numberClaims_94 : decode cX5_numberClaims 94 = .ok (.invokevirtual 166, 3) := by decide +kernel
theorem dX5_numberClaims_97 : decode cX5_numberClaims 97 = .ok (.ifCond .eq 14, 3) := by decide +kernel
theorem dX5_numberClaims_100 : decode cX5_numberClaims 100 = .ok (.aload_n 0, 1) := by decide +kernel
theorem dX5_numberClaims_101 : decode cX5_numberClaims 101 = .ok (.getfield 25, 3) := by decide +kernel
theorem dX5_numberClaims_104 : decode cX5_numberClaims 104 = .ok (.iload 4, 2) := by decide +kernel
theorem dX5_numberClaims_106 : decode cX5_numberClaims 106 = .ok (.iload 5, 2) := by decide +kernel
theorem dX5_numberClaims_108 : decode cX5_numberClaims 108 = .ok (.invokevirtual 170, 3) := by decide +kernel
theorem dX5_numberClaims_111 : decode cX5_numberClaims 111 = .ok (.iinc 3 1, 3) := by decide +kernel
theorem dX5_numberClaims_114 : decode cX5_numberClaims 114 = .ok (.goto (-65), 3) := by decide +kernel
theorem dX5_numberClaims_117 : decode cX5_numberClaims 117 = .ok (.aload_n 0, 1) := by decide +kernel
theorem dX5_numberClaims_118 : decode cX5_numberClaims 118 = .ok (.getfield 42, 3) := by decide +kernel
theorem dX5_numberClaims_121 : decode cX5_numberClaims 121 = .ok (.iconst 0, 1) := by decide +kernel
theorem dX5_numberClaims_122 : decode cX5_numberClaims 122 = .ok (.invokestatic 150, 3) := by decide +kernel
theorem dX5_numberClaims_125 : decode cX5_numberClaims 125 = .ok (.iconst 0, 1) := by decide +kernel
theorem dX5_numberClaims_126 : decode cX5_numberClaims 126 = .ok (.istore_n 3, 1) := by decide +kernel
theorem dX5_numberClaims_127 : decode cX5_numberClaims 127 = .ok (.iload_n 3, 1) := by decide +kernel
theorem dX5_numberClaims_128 : decode cX5_numberClaims 128 = .ok (.aload_n 2, 1) := by decide +kernel
theorem dX5_numberClaims_129 : decode cX5_numberClaims 129 = .ok (.getfield 173, 3) := by decide +kernel
theorem dX5_numberClaims_132 : decode cX5_numberClaims 132 = .ok (.if_icmp .ge 47, 3) := by decide +kernel
theorem dX5_numberClaims_135 : decode cX5_numberClaims 135 = .ok (.aload_n 0, 1) := by decide +kernel
theorem dX5_numberClaims_136 : decode cX5_numberClaims 136 = .ok (.aload_n 1, 1) := by decide +kernel
theorem dX5_numberClaims_137 : decode cX5_numberClaims 137 = .ok (.aload_n 2, 1) := by decide +kernel
theorem dX5_numberClaims_138 : decode cX5_numberClaims 138 = .ok (.getfield 176, 3) := by decide +kernel
theorem dX5_numberClaims_141 : decode cX5_numberClaims 141 = .ok (.iload_n 3, 1) := by decide +kernel
theorem dX5_numberClaims_142 : decode cX5_numberClaims 142 = .ok (.iaload, 1) := by decide +kernel
theorem dX5_numberClaims_143 : decode cX5_numberClaims 143 = .ok (.invokevirtual 146, 3) := by decide +kernel
theorem dX5_numberClaims_146 : decode cX5_numberClaims 146 = .ok (.istore 4, 2) := by decide +kernel
theorem dX5_numberClaims_148 : decode cX5_numberClaims 148 = .ok (.aload_n 0, 1) := by decide +kernel
theorem dX5_numberClaims_149 : decode cX5_numberClaims 149 = .ok (.iload 4, 2) := by decide +kernel
theorem dX5_numberClaims_151 : decode cX5_numberClaims 151 = .ok (.iconst 0, 1) := by decide +kernel
theorem dX5_numberClaims_152 : decode cX5_numberClaims 152 = .ok (.invokevirtual 166, 3) := by decide +kernel
theorem dX5_numberClaims_155 : decode cX5_numberClaims 155 = .ok (.ifCond .eq 18, 3) := by decide +kernel
theorem dX5_numberClaims_158 : decode cX5_numberClaims 158 = .ok (.aload_n 0, 1) := by decide +kernel
theorem dX5_numberClaims_159 : decode cX5_numberClaims 159 = .ok (.getfield 25, 3) := by decide +kernel
theorem dX5_numberClaims_162 : decode cX5_numberClaims 162 = .ok (.iload 4, 2) := by decide +kernel
theorem dX5_numberClaims_164 : decode cX5_numberClaims 164 = .ok (.aload_n 2, 1) := by decide +kernel
theorem dX5_numberClaims_165 : decode cX5_numberClaims 165 = .ok (.getfield 179, 3) := by decide +kernel
theorem dX5_numberClaims_168 : decode cX5_numberClaims 168 = .ok (.iload_n 3, 1) := by decide +kernel
theorem dX5_numberClaims_169 : decode cX5_numberClaims 169 = .ok (.iaload, 1) := by decide +kernel
theorem dX5_numberClaims_170 : decode cX5_numberClaims 170 = .ok (.invokevirtual 182, 3) := by decide +kernel
theorem dX5_numberClaims_173 : decode cX5_numberClaims 173 = .ok (.iinc 3 1, 3) := by decide +kernel
theorem dX5_numberClaims_176 : decode cX5_numberClaims 176 = .ok (.goto (-49), 3) := by decide +kernel
theorem dX5_numberClaims_179 : decode cX5_numberClaims 179 = .ok (.aload_n 0, 1) := by decide +kernel
theorem dX5_numberClaims_180 : decode cX5_numberClaims 180 = .ok (.getfield 42, 3) := by decide +kernel
theorem dX5_numberClaims_183 : decode cX5_numberClaims 183 = .ok (.iconst 0, 1) := by decide +kernel
theorem dX5_numberClaims_184 : decode cX5_numberClaims 184 = .ok (.invokestatic 150, 3) := by decide +kernel
theorem dX5_numberClaims_187 : decode cX5_numberClaims 187 = .ok (.iconst 0, 1) := by decide +kernel
theorem dX5_numberClaims_188 : decode cX5_numberClaims 188 = .ok (.istore_n 3, 1) := by decide +kernel
theorem dX5_numberClaims_189 : decode cX5_numberClaims 189 = .ok (.iload_n 3, 1) := by decide +kernel
theorem dX5_numberClaims_190 : decode cX5_numberClaims 190 = .ok (.aload_n 2, 1) := by decide +kernel
theorem dX5_numberClaims_191 : decode cX5_numberClaims 191 = .ok (.getfield 185, 3) := by decide +kernel
theorem dX5_numberClaims_194 : decode cX5_numberClaims 194 = .ok (.if_icmp .ge 77, 3) := by decide +kernel
theorem dX5_numberClaims_197 : decode cX5_numberClaims 197 = .ok (.aload_n 0, 1) := by decide +kernel
theorem dX5_numberClaims_198 : decode cX5_numberClaims 198 = .ok (.aload_n 1, 1) := by decide +kernel
theorem dX5_numberClaims_199 : decode cX5_numberClaims 199 = .ok (.aload_n 2, 1) := by decide +kernel
theorem dX5_numberClaims_200 : decode cX5_numberClaims 200 = .ok (.getfield 188, 3) := by decide +kernel
theorem dX5_numberClaims_203 : decode cX5_numberClaims 203 = .ok (.iload_n 3, 1) := by decide +kernel
theorem dX5_numberClaims_204 : decode cX5_numberClaims 204 = .ok (.iaload, 1) := by decide +kernel
theorem dX5_numberClaims_205 : decode cX5_numberClaims 205 = .ok (.invokevirtual 146, 3) := by decide +kernel
theorem dX5_numberClaims_208 : decode cX5_numberClaims 208 = .ok (.istore 4, 2) := by decide +kernel
theorem dX5_numberClaims_210 : decode cX5_numberClaims 210 = .ok (.aload_n 0, 1) := by decide +kernel
theorem dX5_numberClaims_211 : decode cX5_numberClaims 211 = .ok (.aload_n 1, 1) := by decide +kernel
theorem dX5_numberClaims_212 : decode cX5_numberClaims 212 = .ok (.aload_n 2, 1) := by decide +kernel
theorem dX5_numberClaims_213 : decode cX5_numberClaims 213 = .ok (.getfield 191, 3) := by decide +kernel
theorem dX5_numberClaims_216 : decode cX5_numberClaims 216 = .ok (.iload_n 3, 1) := by decide +kernel
theorem dX5_numberClaims_217 : decode cX5_numberClaims 217 = .ok (.iaload, 1) := by decide +kernel
theorem dX5_numberClaims_218 : decode cX5_numberClaims 218 = .ok (.invokevirtual 146, 3) := by decide +kernel
theorem dX5_numberClaims_221 : decode cX5_numberClaims 221 = .ok (.istore 5, 2) := by decide +kernel
theorem dX5_numberClaims_223 : decode cX5_numberClaims 223 = .ok (.aload_n 0, 1) := by decide +kernel
theorem dX5_numberClaims_224 : decode cX5_numberClaims 224 = .ok (.getfield 14, 3) := by decide +kernel
theorem dX5_numberClaims_227 : decode cX5_numberClaims 227 = .ok (.iload 5, 2) := by decide +kernel
theorem dX5_numberClaims_229 : decode cX5_numberClaims 229 = .ok (.invokevirtual 96, 3) := by decide +kernel
theorem dX5_numberClaims_232 : decode cX5_numberClaims 232 = .ok (.ifCond .eq 33, 3) := by decide +kernel
theorem dX5_numberClaims_235 : decode cX5_numberClaims 235 = .ok (.aload_n 0, 1) := by decide +kernel
theorem dX5_numberClaims_236 : decode cX5_numberClaims 236 = .ok (.iload 4, 2) := by decide +kernel
theorem dX5_numberClaims_238 : decode cX5_numberClaims 238 = .ok (.aload_n 0, 1) := by decide +kernel
theorem dX5_numberClaims_239 : decode cX5_numberClaims 239 = .ok (.getfield 14, 3) := by decide +kernel
theorem dX5_numberClaims_242 : decode cX5_numberClaims 242 = .ok (.getfield 107, 3) := by decide +kernel
theorem dX5_numberClaims_245 : decode cX5_numberClaims 245 = .ok (.iload 5, 2) := by decide +kernel
theorem dX5_numberClaims_247 : decode cX5_numberClaims 247 = .ok (.iaload, 1) := by decide +kernel
theorem dX5_numberClaims_248 : decode cX5_numberClaims 248 = .ok (.invokevirtual 166, 3) := by decide +kernel
theorem dX5_numberClaims_251 : decode cX5_numberClaims 251 = .ok (.ifCond .eq 14, 3) := by decide +kernel
theorem dX5_numberClaims_254 : decode cX5_numberClaims 254 = .ok (.aload_n 0, 1) := by decide +kernel
theorem dX5_numberClaims_255 : decode cX5_numberClaims 255 = .ok (.getfield 25, 3) := by decide +kernel
theorem dX5_numberClaims_258 : decode cX5_numberClaims 258 = .ok (.iload 4, 2) := by decide +kernel
theorem dX5_numberClaims_260 : decode cX5_numberClaims 260 = .ok (.iload 5, 2) := by decide +kernel
theorem dX5_numberClaims_262 : decode cX5_numberClaims 262 = .ok (.invokevirtual 194, 3) := by decide +kernel
theorem dX5_numberClaims_265 : decode cX5_numberClaims 265 = .ok (.iinc 3 1, 3) := by decide +kernel
theorem dX5_numberClaims_268 : decode cX5_numberClaims 268 = .ok (.goto (-79), 3) := by decide +kernel
theorem dX5_numberClaims_271 : decode cX5_numberClaims 271 = .ok (.return_, 1) := by decide +kernel
theorem dX5_isNewClaim_0 : decode cX5_isNewClaim 0 = .ok (.aload_n 0, 1) := by decide +kernel
theorem dX5_isNewClaim_1 : decode cX5_isNewClaim 1 = .ok (.getfield 14, 3) := by decide +kernel
theorem dX5_isNewClaim_4 : decode cX5_isNewClaim 4 = .ok (.iload_n 1, 1) := by decide +kernel
theorem dX5_isNewClaim_5 : decode cX5_isNewClaim 5 = .ok (.invokevirtual 96, 3) := by decide +kernel
theorem dX5_isNewClaim_8 : decode cX5_isNewClaim 8 = .ok (.ifCond .eq 13, 3) := by decide +kernel
theorem dX5_isNewClaim_11 : decode cX5_isNewClaim 11 = .ok (.iload_n 2, 1) := by decide +kernel
theorem dX5_isNewClaim_12 : decode cX5_isNewClaim 12 = .ok (.ifCond .lt 9, 3) := by decide +kernel
theorem dX5_isNewClaim_15 : decode cX5_isNewClaim 15 = .ok (.iload_n 2, 1) := by decide +kernel
theorem dX5_isNewClaim_16 : decode cX5_isNewClaim 16 = .ok (.bipush 20, 2) := by decide +kernel
theorem dX5_isNewClaim_18 : decode cX5_isNewClaim 18 = .ok (.if_icmp .lt 5, 3) := by decide +kernel
theorem dX5_isNewClaim_21 : decode cX5_isNewClaim 21 = .ok (.iconst 0, 1) := by decide +kernel
theorem dX5_isNewClaim_22 : decode cX5_isNewClaim 22 = .ok (.ireturn, 1) := by decide +kernel
theorem dX5_isNewClaim_23 : decode cX5_isNewClaim 23 = .ok (.aload_n 0, 1) := by decide +kernel
theorem dX5_isNewClaim_24 : decode cX5_isNewClaim 24 = .ok (.getfield 14, 3) := by decide +kernel
theorem dX5_isNewClaim_27 : decode cX5_isNewClaim 27 = .ok (.getfield 107, 3) := by decide +kernel
theorem dX5_isNewClaim_30 : decode cX5_isNewClaim 30 = .ok (.iload_n 1, 1) := by decide +kernel
theorem dX5_isNewClaim_31 : decode cX5_isNewClaim 31 = .ok (.iaload, 1) := by decide +kernel
theorem dX5_isNewClaim_32 : decode cX5_isNewClaim 32 = .ok (.bipush 20, 2) := by decide +kernel
theorem dX5_isNewClaim_34 : decode cX5_isNewClaim 34 = .ok (.imul, 1) := by decide +kernel
theorem dX5_isNewClaim_35 : decode cX5_isNewClaim 35 = .ok (.iload_n 2, 1) := by decide +kernel
theorem dX5_isNewClaim_36 : decode cX5_isNewClaim 36 = .ok (.iadd, 1) := by decide +kernel
theorem dX5_isNewClaim_37 : decode cX5_isNewClaim 37 = .ok (.istore_n 3, 1) := by decide +kernel
theorem dX5_isNewClaim_38 : decode cX5_isNewClaim 38 = .ok (.aload_n 0, 1) := by decide +kernel
theorem dX5_isNewClaim_39 : decode cX5_isNewClaim 39 = .ok (.getfield 42, 3) := by decide +kernel
theorem dX5_isNewClaim_42 : decode cX5_isNewClaim 42 = .ok (.iload_n 3, 1) := by decide +kernel
theorem dX5_isNewClaim_43 : decode cX5_isNewClaim 43 = .ok (.iaload, 1) := by decide +kernel
theorem dX5_isNewClaim_44 : decode cX5_isNewClaim 44 = .ok (.ifCond .eq 5, 3) := by decide +kernel
theorem dX5_isNewClaim_47 : decode cX5_isNewClaim 47 = .ok (.iconst 0, 1) := by decide +kernel
theorem dX5_isNewClaim_48 : decode cX5_isNewClaim 48 = .ok (.ireturn, 1) := by decide +kernel
theorem dX5_isNewClaim_49 : decode cX5_isNewClaim 49 = .ok (.aload_n 0, 1) := by decide +kernel
theorem dX5_isNewClaim_50 : decode cX5_isNewClaim 50 = .ok (.getfield 42, 3) := by decide +kernel
theorem dX5_isNewClaim_53 : decode cX5_isNewClaim 53 = .ok (.iload_n 3, 1) := by decide +kernel
theorem dX5_isNewClaim_54 : decode cX5_isNewClaim 54 = .ok (.iconst 1, 1) := by decide +kernel
theorem dX5_isNewClaim_55 : decode cX5_isNewClaim 55 = .ok (.iastore, 1) := by decide +kernel
theorem dX5_isNewClaim_56 : decode cX5_isNewClaim 56 = .ok (.iconst 1, 1) := by decide +kernel
theorem dX5_isNewClaim_57 : decode cX5_isNewClaim 57 = .ok (.ireturn, 1) := by decide +kernel
theorem dX5_stepsBetween_0 : decode cX5_stepsBetween 0 = .ok (.iload_n 1, 1) := by decide +kernel
theorem dX5_stepsBetween_1 : decode cX5_stepsBetween 1 = .ok (.istore_n 3, 1) := by decide +kernel
theorem dX5_stepsBetween_2 : decode cX5_stepsBetween 2 = .ok (.iconst 1, 1) := by decide +kernel
theorem dX5_stepsBetween_3 : decode cX5_stepsBetween 3 = .ok (.istore 4, 2) := by decide +kernel
theorem dX5_stepsBetween_5 : decode cX5_stepsBetween 5 = .ok (.iload 4, 2) := by decide +kernel
theorem dX5_stepsBetween_7 : decode cX5_stepsBetween 7 = .ok (.iconst 5, 1) := by decide +kernel
theorem dX5_stepsBetween_8 : decode cX5_stepsBetween 8 = .ok (.if_icmp .gt 38, 3) := by decide +kernel
theorem dX5_stepsBetween_11 : decode cX5_stepsBetween 11 = .ok (.aload_n 0, 1) := by decide +kernel
theorem dX5_stepsBetween_12 : decode cX5_stepsBetween 12 = .ok (.getfield 14, 3) := by decide +kernel
theorem dX5_stepsBetween_15 : decode cX5_stepsBetween 15 = .ok (.iload_n 3, 1) := by decide +kernel
theorem dX5_stepsBetween_16 : decode cX5_stepsBetween 16 = .ok (.invokevirtual 96, 3) := by decide +kernel
theorem dX5_stepsBetween_19 : decode cX5_stepsBetween 19 = .ok (.ifCond .eq 27, 3) := by decide +kernel
theorem dX5_stepsBetween_22 : decode cX5_stepsBetween 22 = .ok (.aload_n 0, 1) := by decide +kernel
theorem dX5_stepsBetween_23 : decode cX5_stepsBetween 23 = .ok (.getfield 14, 3) := by decide +kernel
theorem dX5_stepsBetween_26 : decode cX5_stepsBetween 26 = .ok (.getfield 133, 3) := by decide +kernel
theorem dX5_stepsBetween_29 : decode cX5_stepsBetween 29 = .ok (.iload_n 3, 1) := by decide +kernel
theorem dX5_stepsBetween_30 : decode cX5_stepsBetween 30 = .ok (.iaload, 1) := by decide +kernel
theorem dX5_stepsBetween_31 : decode cX5_stepsBetween 31 = .ok (.istore_n 3, 1) := by decide +kernel
theorem dX5_stepsBetween_32 : decode cX5_stepsBetween 32 = .ok (.iload_n 3, 1) := by decide +kernel
theorem dX5_stepsBetween_33 : decode cX5_stepsBetween 33 = .ok (.iload_n 2, 1) := by decide +kernel
theorem dX5_stepsBetween_34 : decode cX5_stepsBetween 34 = .ok (.if_icmp .ne 6, 3) := by decide +kernel
theorem dX5_stepsBetween_37 : decode cX5_stepsBetween 37 = .ok (.iload 4, 2) := by decide +kernel
theorem dX5_stepsBetween_39 : decode cX5_stepsBetween 39 = .ok (.ireturn, 1) := by decide +kernel
theorem dX5_stepsBetween_40 : decode cX5_stepsBetween 40 = .ok (.iinc 4 1, 3) := by decide +kernel
theorem dX5_stepsBetween_43 : decode cX5_stepsBetween 43 = .ok (.goto (-38), 3) := by decide +kernel
theorem dX5_stepsBetween_46 : decode cX5_stepsBetween 46 = .ok (.iconst (-1), 1) := by decide +kernel
theorem dX5_stepsBetween_47 : decode cX5_stepsBetween 47 = .ok (.ireturn, 1) := by decide +kernel
theorem dX5_isCorner_0 : decode cX5_isCorner 0 = .ok (.iload_n 1, 1) := by decide +kernel
theorem dX5_isCorner_1 : decode cX5_isCorner 1 = .ok (.ifCond .lt 15, 3) := by decide +kernel
theorem dX5_isCorner_4 : decode cX5_isCorner 4 = .ok (.iload_n 1, 1) := by decide +kernel
theorem dX5_isCorner_5 : decode cX5_isCorner 5 = .ok (.aload_n 0, 1) := by decide +kernel
theorem dX5_isCorner_6 : decode cX5_isCorner 6 = .ok (.getfield 66, 3) := by decide +kernel
theorem dX5_isCorner_9 : decode cX5_isCorner 9 = .ok (.if_icmp .ge 7, 3) := by decide +kernel
theorem dX5_isCorner_12 : decode cX5_isCorner 12 = .ok (.iconst 1, 1) := by decide +kernel
theorem dX5_isCorner_13 : decode cX5_isCorner 13 = .ok (.goto 4, 3) := by decide +kernel
theorem dX5_isCorner_16 : decode cX5_isCorner 16 = .ok (.iconst 0, 1) := by decide +kernel
theorem dX5_isCorner_17 : decode cX5_isCorner 17 = .ok (.ireturn, 1) := by decide +kernel
theorem dX5_knownLanes_0 : decode cX5_knownLanes 0 = .ok (.aload_n 0, 1) := by decide +kernel
theorem dX5_knownLanes_1 : decode cX5_knownLanes 1 = .ok (.getfield 29, 3) := by decide +kernel
theorem dX5_knownLanes_4 : decode cX5_knownLanes 4 = .ok (.iload_n 1, 1) := by decide +kernel
theorem dX5_knownLanes_5 : decode cX5_knownLanes 5 = .ok (.iconst 1, 1) := by decide +kernel
theorem dX5_knownLanes_6 : decode cX5_knownLanes 6 = .ok (.iadd, 1) := by decide +kernel
theorem dX5_knownLanes_7 : decode cX5_knownLanes 7 = .ok (.iaload, 1) := by decide +kernel
theorem dX5_knownLanes_8 : decode cX5_knownLanes 8 = .ok (.aload_n 0, 1) := by decide +kernel
theorem dX5_knownLanes_9 : decode cX5_knownLanes 9 = .ok (.getfield 29, 3) := by decide +kernel
theorem dX5_knownLanes_12 : decode cX5_knownLanes 12 = .ok (.iload_n 1, 1) := by decide +kernel
theorem dX5_knownLanes_13 : decode cX5_knownLanes 13 = .ok (.iaload, 1) := by decide +kernel
theorem dX5_knownLanes_14 : decode cX5_knownLanes 14 = .ok (.isub, 1) := by decide +kernel
theorem dX5_knownLanes_15 : decode cX5_knownLanes 15 = .ok (.ireturn, 1) := by decide +kernel
theorem dX5_thingAt_0 : decode cX5_thingAt 0 = .ok (.iconst 0, 1) := by decide +kernel
theorem dX5_thingAt_1 : decode cX5_thingAt 1 = .ok (.istore_n 2, 1) := by decide +kernel
theorem dX5_thingAt_2 : decode cX5_thingAt 2 = .ok (.iload_n 2, 1) := by decide +kernel
theorem dX5_thingAt_3 : decode cX5_thingAt 3 = .ok (.bipush 8, 2) := by decide +kernel
theorem dX5_thingAt_5 : decode cX5_thingAt 5 = .ok (.if_icmp .ge 38, 3) := by decide +kernel
theorem dX5_thingAt_8 : decode cX5_thingAt 8 = .ok (.aload_n 0, 1) := by decide +kernel
theorem dX5_thingAt_9 : decode cX5_thingAt 9 = .ok (.getfield 25, 3) := by decide +kernel
theorem dX5_thingAt_12 : decode cX5_thingAt 12 = .ok (.getfield 143, 3) := by decide +kernel
theorem dX5_thingAt_15 : decode cX5_thingAt 15 = .ok (.iload_n 2, 1) := by decide +kernel
theorem dX5_thingAt_16 : decode cX5_thingAt 16 = .ok (.iaload, 1) := by decide +kernel
theorem dX5_thingAt_17 : decode cX5_thingAt 17 = .ok (.istore_n 3, 1) := by decide +kernel
theorem dX5_thingAt_18 : decode cX5_thingAt 18 = .ok (.iload_n 3, 1) := by decide +kernel
theorem dX5_thingAt_19 : decode cX5_thingAt 19 = .ok (.ifCond .lt 18, 3) := by decide +kernel
theorem dX5_thingAt_22 : decode cX5_thingAt 22 = .ok (.aload_n 0, 1) := by decide +kernel
theorem dX5_thingAt_23 : decode cX5_thingAt 23 = .ok (.getfield 14, 3) := by decide +kernel
theorem dX5_thingAt_26 : decode cX5_thingAt 26 = .ok (.getfield 107, 3) := by decide +kernel
theorem dX5_thingAt_29 : decode cX5_thingAt 29 = .ok (.iload_n 3, 1) := by decide +kernel
theorem dX5_thingAt_30 : decode cX5_thingAt 30 = .ok (.iaload, 1) := by decide +kernel
theorem dX5_thingAt_31 : decode cX5_thingAt 31 = .ok (.iload_n 1, 1) := by decide +kernel
theorem dX5_thingAt_32 : decode cX5_thingAt 32 = .ok (.if_icmp .ne 5, 3) := by decide +kernel
theorem dX5_thingAt_35 : decode cX5_thingAt 35 = .ok (.iload_n 2, 1) := by decide +kernel
theorem dX5_thingAt_36 : decode cX5_thingAt 36 = .ok (.ireturn, 1) := by decide +kernel
theorem dX5_thingAt_37 : decode cX5_thingAt 37 = .ok (.iinc 2 1, 3) := by decide +kernel
theorem dX5_thingAt_40 : decode cX5_thingAt 40 = .ok (.goto (-38), 3) := by decide +kernel
theorem dX5_thingAt_43 : decode cX5_thingAt 43 = .ok (.bipush (-4), 2) := by decide +kernel
theorem dX5_thingAt_45 : decode cX5_thingAt 45 = .ok (.ireturn, 1) := by decide +kernel
theorem dX5_openEnds_0 : decode cX5_openEnds 0 = .ok (.iconst 0, 1) := by decide +kernel
theorem dX5_openEnds_1 : decode cX5_openEnds 1 = .ok (.istore_n 2, 1) := by decide +kernel
theorem dX5_openEnds_2 : decode cX5_openEnds 2 = .ok (.aload_n 0, 1) := by decide +kernel
theorem dX5_openEnds_3 : decode cX5_openEnds 3 = .ok (.getfield 29, 3) := by decide +kernel
theorem dX5_openEnds_6 : decode cX5_openEnds 6 = .ok (.iload_n 1, 1) := by decide +kernel
theorem dX5_openEnds_7 : decode cX5_openEnds 7 = .ok (.iaload, 1) := by decide +kernel
theorem dX5_openEnds_8 : decode cX5_openEnds 8 = .ok (.istore_n 3, 1) := by decide +kernel
theorem dX5_openEnds_9 : decode cX5_openEnds 9 = .ok (.iload_n 3, 1) := by decide +kernel
theorem dX5_openEnds_10 : decode cX5_openEnds 10 = .ok (.aload_n 0, 1) := by decide +kernel
theorem dX5_openEnds_11 : decode cX5_openEnds 11 = .ok (.getfield 29, 3) := by decide +kernel
theorem dX5_openEnds_14 : decode cX5_openEnds 14 = .ok (.iload_n 1, 1) := by decide +kernel
theorem dX5_openEnds_15 : decode cX5_openEnds 15 = .ok (.iconst 1, 1) := by decide +kernel
theorem dX5_openEnds_16 : decode cX5_openEnds 16 = .ok (.iadd, 1) := by decide +kernel
theorem dX5_openEnds_17 : decode cX5_openEnds 17 = .ok (.iaload, 1) := by decide +kernel
theorem dX5_openEnds_18 : decode cX5_openEnds 18 = .ok (.if_icmp .ge 24, 3) := by decide +kernel
theorem dX5_openEnds_21 : decode cX5_openEnds 21 = .ok (.aload_n 0, 1) := by decide +kernel
theorem dX5_openEnds_22 : decode cX5_openEnds 22 = .ok (.getfield 14, 3) := by decide +kernel
theorem dX5_openEnds_25 : decode cX5_openEnds 25 = .ok (.getfield 139, 3) := by decide +kernel
theorem dX5_openEnds_28 : decode cX5_openEnds 28 = .ok (.iload_n 3, 1) := by decide +kernel
theorem dX5_openEnds_29 : decode cX5_openEnds 29 = .ok (.iaload, 1) := by decide +kernel
theorem dX5_openEnds_30 : decode cX5_openEnds 30 = .ok (.ifCond .ge 6, 3) := by decide +kernel
theorem dX5_openEnds_33 : decode cX5_openEnds 33 = .ok (.iinc 2 1, 3) := by decide +kernel
theorem dX5_openEnds_36 : decode cX5_openEnds 36 = .ok (.iinc 3 1, 3) := by decide +kernel
theorem dX5_openEnds_39 : decode cX5_openEnds 39 = .ok (.goto (-30), 3) := by decide +kernel
theorem dX5_openEnds_42 : decode cX5_openEnds 42 = .ok (.iload_n 2, 1) := by decide +kernel
theorem dX5_openEnds_43 : decode cX5_openEnds 43 = .ok (.ireturn, 1) := by decide +kernel
theorem dX5_lanes_0 : decode cX5_lanes 0 = .ok (.iconst 0, 1) := by decide +kernel
theorem dX5_lanes_1 : decode cX5_lanes 1 = .ok (.istore_n 1, 1) := by decide +kernel
