theorem dX0_init_0 : decode cX0_init 0 = .ok (.aload_n 0, 1) := by decide +kernel
theorem dX0_init_1 : decode cX0_init 1 = .ok (.invokespecial 3, 3) := by decide +kernel
theorem dX0_init_4 : decode cX0_init 4 = .ok (.aload_n 0, 1) := by decide +kernel
theorem dX0_init_5 : decode cX0_init 5 = .ok (.bipush 8, 2) := by decide +kernel
theorem dX0_init_7 : decode cX0_init 7 = .ok (.newarray .int, 2) := by decide +kernel
theorem dX0_init_9 : decode cX0_init 9 = .ok (.putfield 9, 3) := by decide +kernel
theorem dX0_init_12 : decode cX0_init 12 = .ok (.aload_n 0, 1) := by decide +kernel
theorem dX0_init_13 : decode cX0_init 13 = .ok (.iload_n 1, 1) := by decide +kernel
theorem dX0_init_14 : decode cX0_init 14 = .ok (.newarray .int, 2) := by decide +kernel
theorem dX0_init_16 : decode cX0_init 16 = .ok (.putfield 15, 3) := by decide +kernel
theorem dX0_init_19 : decode cX0_init 19 = .ok (.aload_n 0, 1) := by decide +kernel
theorem dX0_init_20 : decode cX0_init 20 = .ok (.iload_n 1, 1) := by decide +kernel
theorem dX0_init_21 : decode cX0_init 21 = .ok (.newarray .int, 2) := by decide +kernel
theorem dX0_init_23 : decode cX0_init 23 = .ok (.putfield 18, 3) := by decide +kernel
theorem dX0_init_26 : decode cX0_init 26 = .ok (.aload_n 0, 1) := by decide +kernel
theorem dX0_init_27 : decode cX0_init 27 = .ok (.iload_n 1, 1) := by decide +kernel
theorem dX0_init_28 : decode cX0_init 28 = .ok (.newarray .int, 2) := by decide +kernel
theorem dX0_init_30 : decode cX0_init 30 = .ok (.putfield 21, 3) := by decide +kernel
theorem dX0_init_33 : decode cX0_init 33 = .ok (.aload_n 0, 1) := by decide +kernel
theorem dX0_init_34 : decode cX0_init 34 = .ok (.iload_n 1, 1) := by decide +kernel
theorem dX0_init_35 : decode cX0_init 35 = .ok (.newarray .int, 2) := by decide +kernel
theorem dX0_init_37 : decode cX0_init 37 = .ok (.putfield 24, 3) := by decide +kernel
theorem dX0_init_40 : decode cX0_init 40 = .ok (.aload_n 0, 1) := by decide +kernel
theorem dX0_init_41 : decode cX0_init 41 = .ok (.iload_n 1, 1) := by decide +kernel
theorem dX0_init_42 : decode cX0_init 42 = .ok (.newarray .int, 2) := by decide +kernel
theorem dX0_init_44 : decode cX0_init 44 = .ok (.putfield 27, 3) := by decide +kernel
theorem dX0_init_47 : decode cX0_init 47 = .ok (.aload_n 0, 1) := by decide +kernel
theorem dX0_init_48 : decode cX0_init 48 = .ok (.iload_n 1, 1) := by decide +kernel
theorem dX0_init_49 : decode cX0_init 49 = .ok (.newarray .int, 2) := by decide +kernel
theorem dX0_init_51 : decode cX0_init 51 = .ok (.putfield 30, 3) := by decide +kernel
theorem dX0_init_54 : decode cX0_init 54 = .ok (.return_, 1) := by decide +kernel
theorem dX0_dropClaims_0 : decode cX0_dropClaims 0 = .ok (.aload_n 0, 1) := by decide +kernel
theorem dX0_dropClaims_1 : decode cX0_dropClaims 1 = .ok (.iconst 0, 1) := by decide +kernel
theorem dX0_dropClaims_2 : decode cX0_dropClaims 2 = .ok (.putfield 33, 3) := by decide +kernel
theorem dX0_dropClaims_5 : decode cX0_dropClaims 5 = .ok (.aload_n 0, 1) := by decide +kernel
theorem dX0_dropClaims_6 : decode cX0_dropClaims 6 = .ok (.iconst 0, 1) := by decide +kernel
theorem dX0_dropClaims_7 : decode cX0_dropClaims 7 = .ok (.putfield 37, 3) := by decide +kernel
theorem dX0_dropClaims_10 : decode cX0_dropClaims 10 = .ok (.aload_n 0, 1) := by decide +kernel
theorem dX0_dropClaims_11 : decode cX0_dropClaims 11 = .ok (.iconst 0, 1) := by decide +kernel
theorem dX0_dropClaims_12 : decode cX0_dropClaims 12 = .ok (.putfield 40, 3) := by decide +kernel
theorem dX0_dropClaims_15 : decode cX0_dropClaims 15 = .ok (.aload_n 0, 1) := by decide +kernel
theorem dX0_dropClaims_16 : decode cX0_dropClaims 16 = .ok (.getfield 9, 3) := by decide +kernel
theorem dX0_dropClaims_19 : decode cX0_dropClaims 19 = .ok (.iconst (-1), 1) := by decide +kernel
theorem dX0_dropClaims_20 : decode cX0_dropClaims 20 = .ok (.invokestatic 43, 3) := by decide +kernel
theorem dX0_dropClaims_23 : decode cX0_dropClaims 23 = .ok (.return_, 1) := by decide +kernel
theorem dX0_addTurn_0 : decode cX0_addTurn 0 = .ok (.aload_n 0, 1) := by decide +kernel
theorem dX0_addTurn_1 : decode cX0_addTurn 1 = .ok (.getfield 33, 3) := by decide +kernel
theorem dX0_addTurn_4 : decode cX0_addTurn 4 = .ok (.aload_n 0, 1) := by decide +kernel
theorem dX0_addTurn_5 : decode cX0_addTurn 5 = .ok (.getfield 15, 3) := by decide +kernel
theorem dX0_addTurn_8 : decode cX0_addTurn 8 = .ok (.arraylength, 1) := by decide +kernel
theorem dX0_addTurn_9 : decode cX0_addTurn 9 = .ok (.if_icmp .ge 33, 3) := by decide +kernel
theorem dX0_addTurn_12 : decode cX0_addTurn 12 = .ok (.aload_n 0, 1) := by decide +kernel
theorem dX0_addTurn_13 : decode cX0_addTurn 13 = .ok (.getfield 15, 3) := by decide +kernel
theorem dX0_addTurn_16 : decode cX0_addTurn 16 = .ok (.aload_n 0, 1) := by decide +kernel
theorem dX0_addTurn_17 : decode cX0_addTurn 17 = .ok (.getfield 33, 3) := by decide +kernel
theorem dX0_addTurn_20 : decode cX0_addTurn 20 = .ok (.iload_n 1, 1) := by decide +kernel
theorem dX0_addTurn_21 : decode cX0_addTurn 21 = .ok (.iastore, 1) := by decide +kernel
theorem dX0_addTurn_22 : decode cX0_addTurn 22 = .ok (.aload_n 0, 1) := by decide +kernel
theorem dX0_addTurn_23 : decode cX0_addTurn 23 = .ok (.getfield 18, 3) := by decide +kernel
theorem dX0_addTurn_26 : decode cX0_addTurn 26 = .ok (.aload_n 0, 1) := by decide +kernel
theorem dX0_addTurn_27 : decode cX0_addTurn 27 = .ok (.getfield 33, 3) := by decide +kernel
theorem dX0_addTurn_30 : decode cX0_addTurn 30 = .ok (.iload_n 2, 1) := by decide +kernel
theorem dX0_addTurn_31 : decode cX0_addTurn 31 = .ok (.iastore, 1) := by decide +kernel
theorem dX0_addTurn_32 : decode cX0_addTurn 32 = .ok (.aload_n 0, 1) := by decide +kernel
theorem dX0_addTurn_33 : decode cX0_addTurn 33 = .ok (.dup, 1) := by decide +kernel
theorem dX0_addTurn_34 : decode cX0_addTurn 34 = .ok (.getfield 33, 3) := by decide +kernel
theorem dX0_addTurn_37 : decode cX0_addTurn 37 = .ok (.iconst 1, 1) := by decide +kernel
theorem dX0_addTurn_38 : decode cX0_addTurn 38 = .ok (.iadd, 1) := by decide +kernel
theorem dX0_addTurn_39 : decode cX0_addTurn 39 = .ok (.putfield 33, 3) := by decide +kernel
theorem dX0_addTurn_42 : decode cX0_addTurn 42 = .ok (.return_, 1) := by decide +kernel
theorem dX0_addRound_0 : decode cX0_addRound 0 = .ok (.aload_n 0, 1) := by decide +kernel
theorem dX0_addRound_1 : decode cX0_addRound 1 = .ok (.getfield 37, 3) := by decide +kernel
theorem dX0_addRound_4 : decode cX0_addRound 4 = .ok (.aload_n 0, 1) := by decide +kernel
theorem dX0_addRound_5 : decode cX0_addRound 5 = .ok (.getfield 21, 3) := by decide +kernel
theorem dX0_addRound_8 : decode cX0_addRound 8 = .ok (.arraylength, 1) := by decide +kernel
theorem dX0_addRound_9 : decode cX0_addRound 9 = .ok (.if_icmp .ge 33, 3) := by decide +kernel
theorem dX0_addRound_12 : decode cX0_addRound 12 = .ok (.aload_n 0, 1) := by decide +kernel
theorem dX0_addRound_13 : decode cX0_addRound 13 = .ok (.getfield 21, 3) := by decide +kernel
theorem dX0_addRound_16 : decode cX0_addRound 16 = .ok (.aload_n 0, 1) := by decide +kernel
theorem dX0_addRound_17 : decode cX0_addRound 17 = .ok (.getfield 37, 3) := by decide +kernel
theorem dX0_addRound_20 : decode cX0_addRound 20 = .ok (.iload_n 1, 1) := by decide +kernel
theorem dX0_addRound_21 : decode cX0_addRound 21 = .ok (.iastore, 1) := by decide +kernel
theorem dX0_addRound_22 : decode cX0_addRound 22 = .ok (.aload_n 0, 1) := by decide +kernel
theorem dX0_addRound_23 : decode cX0_addRound 23 = .ok (.getfield 24, 3) := by decide +kernel
theorem dX0_addRound_26 : decode cX0_addRound 26 = .ok (.aload_n 0, 1) := by decide +kernel
theorem dX0_addRound_27 : decode cX0_addRound 27 = .ok (.getfield 37, 3) := by decide +kernel
theorem dX0_addRound_30 : decode cX0_addRound 30 = .ok (.iload_n 2, 1) := by decide +kernel
theorem dX0_addRound_31 : decode cX0_addRound 31 = .ok (.iastore, 1) := by decide +kernel
theorem dX0_addRound_32 : decode cX0_addRound 32 = .ok (.aload_n 0, 1) := by decide +kernel
theorem dX0_addRound_33 : decode cX0_addRound 33 = .ok (.dup, 1) := by decide +kernel
theorem dX0_addRound_34 : decode cX0_addRound 34 = .ok (.getfield 37, 3) := by decide +kernel
theorem dX0_addRound_37 : decode cX0_addRound 37 = .ok (.iconst 1, 1) := by decide +kernel
theorem dX0_addRound_38 : decode cX0_addRound 38 = .ok (.iadd, 1) := by decide +kernel
theorem dX0_addRound_39 : decode cX0_addRound 39 = .ok (.putfield 37, 3) := by decide +kernel
theorem dX0_addRound_42 : decode cX0_addRound 42 = .ok (.return_, 1) := by decide +kernel
theorem dX0_addApart_0 : decode cX0_addApart 0 = .ok (.aload_n 0, 1) := by decide +kernel
theorem dX0_addApart_1 : decode cX0_addApart 1 = .ok (.getfield 40, 3) := by decide +kernel
theorem dX0_addApart_4 : decode cX0_addApart 4 = .ok (.aload_n 0, 1) := by decide +kernel
theorem dX0_addApart_5 : decode cX0_addApart 5 = .ok (.getfield 27, 3) := by decide +kernel
theorem dX0_addApart_8 : decode cX0_addApart 8 = .ok (.arraylength, 1) := by decide +kernel
theorem dX0_addApart_9 : decode cX0_addApart 9 = .ok (.if_icmp .ge 33, 3) := by decide +kernel
theorem dX0_addApart_12 : decode cX0_addApart 12 = .ok (.aload_n 0, 1) := by decide +kernel
theorem dX0_addApart_13 : decode cX0_addApart 13 = .ok (.getfield 27, 3) := by decide +kernel
theorem dX0_addApart_16 : decode cX0_addApart 16 = .ok (.aload_n 0, 1) := by decide +kernel
theorem dX0_addApart_17 : decode cX0_addApart 17 = .ok (.getfield 40, 3) := by decide +kernel
theorem dX0_addApart_20 : decode cX0_addApart 20 = .ok (.iload_n 1, 1) := by decide +kernel
theorem dX0_addApart_21 : decode cX0_addApart 21 = .ok (.iastore, 1) := by decide +kernel
theorem dX0_addApart_22 : decode cX0_addApart 22 = .ok (.aload_n 0, 1) := by decide +kernel
theorem dX0_addApart_23 : decode cX0_addApart 23 = .ok (.getfield 30, 3) := by decide +kernel
theorem dX0_addApart_26 : decode cX0_addApart 26 = .ok (.aload_n 0, 1) := by decide +kernel
theorem dX0_addApart_27 : decode cX0_addApart 27 = .ok (.getfield 40, 3) := by decide +kernel
theorem dX0_addApart_30 : decode cX0_addApart 30 = .ok (.iload_n 2, 1) := by decide +kernel
theorem dX0_addApart_31 : decode cX0_addApart 31 = .ok (.iastore, 1) := by decide +kernel
theorem dX0_addApart_32 : decode cX0_addApart 32 = .ok (.aload_n 0, 1) := by decide +kernel
theorem dX0_addApart_33 : decode cX0_addApart 33 = .ok (.dup, 1) := by decide +kernel
theorem dX0_addApart_34 : decode cX0_addApart 34 = .ok (.getfield 40, 3) := by decide +kernel
theorem dX0_addApart_37 : decode cX0_addApart 37 = .ok (.iconst 1, 1) := by decide +kernel
theorem dX0_addApart_38 : decode cX0_addApart 38 = .ok (.iadd, 1) := by decide +kernel
theorem dX0_addApart_39 : decode cX0_addApart 39 = .ok (.putfield 40, 3) := by decide +kernel
theorem dX0_addApart_42 : decode cX0_addApart 42 = .ok (.return_, 1) := by decide +kernel
theorem dX0_barIn_0 : decode cX0_barIn 0 = .ok (.iconst 0, 1) := by decide +kernel
theorem dX0_barIn_1 : decode cX0_barIn 1 = .ok (.istore_n 2, 1) := by decide +kernel
theorem dX0_barIn_2 : decode cX0_barIn 2 = .ok (.iload_n 2, 1) := by decide +kernel
theorem dX0_barIn_3 : decode cX0_barIn 3 = .ok (.aload_n 0, 1) := by decide +kernel
theorem dX0_barIn_4 : decode cX0_barIn 4 = .ok (.getfield 33, 3) := by decide +kernel
theorem dX0_barIn_7 : decode cX0_barIn 7 = .ok (.if_icmp .ge 30, 3) := by decide +kernel
theorem dX0_barIn_10 : decode cX0_barIn 10 = .ok (.aload_n 1, 1) := by decide +kernel
theorem dX0_barIn_11 : decode cX0_barIn 11 = .ok (.aload_n 0, 1) := by decide +kernel
theorem dX0_barIn_12 : decode cX0_barIn 12 = .ok (.getfield 15, 3) := by decide +kernel
theorem dX0_barIn_15 : decode cX0_barIn 15 = .ok (.iload_n 2, 1) := by decide +kernel
theorem dX0_barIn_16 : decode cX0_barIn 16 = .ok (.iaload, 1) := by decide +kernel
theorem dX0_barIn_17 : decode cX0_barIn 17 = .ok (.aload_n 0, 1) := by decide +kernel
theorem dX0_barIn_18 : decode cX0_barIn 18 = .ok (.getfield 18, 3) := by decide +kernel
theorem dX0_barIn_21 : decode cX0_barIn 21 = .ok (.iload_n 2, 1) := by decide +kernel
theorem dX0_barIn_22 : decode cX0_barIn 22 = .ok (.iaload, 1) := by decide +kernel
theorem dX0_barIn_23 : decode cX0_barIn 23 = .ok (.invokevirtual 49, 3) := by decide +kernel
theorem dX0_barIn_26 : decode cX0_barIn 26 = .ok (.ifCond .eq 5, 3) := by decide +kernel
theorem dX0_barIn_29 : decode cX0_barIn 29 = .ok (.iconst 1, 1) := by decide +kernel
theorem dX0_barIn_30 : decode cX0_barIn 30 = .ok (.ireturn, 1) := by decide +kernel
theorem dX0_barIn_31 : decode cX0_barIn 31 = .ok (.iinc 2 1, 3) := by decide +kernel
theorem dX0_barIn_34 : decode cX0_barIn 34 = .ok (.goto (-32), 3) := by decide +kernel
theorem dX0_barIn_37 : decode cX0_barIn 37 = .ok (.iconst 0, 1) := by decide +kernel
theorem dX0_barIn_38 : decode cX0_barIn 38 = .ok (.istore_n 2, 1) := by decide +kernel
theorem dX0_barIn_39 : decode cX0_barIn 39 = .ok (.iload_n 2, 1) := by decide +kernel
theorem dX0_barIn_40 : decode cX0_barIn 40 = .ok (.aload_n 0, 1) := by decide +kernel
theorem dX0_barIn_41 : decode cX0_barIn 41 = .ok (.getfield 37, 3) := by decide +kernel
theorem dX0_barIn_44 : decode cX0_barIn 44 = .ok (.if_icmp .ge 30, 3) := by decide +kernel
theorem dX0_barIn_47 : decode cX0_barIn 47 = .ok (.aload_n 1, 1) := by decide +kernel
theorem dX0_barIn_48 : decode cX0_barIn 48 = .ok (.aload_n 0, 1) := by decide +kernel
theorem dX0_barIn_49 : decode cX0_barIn 49 = .ok (.getfield 21, 3) := by decide +kernel
theorem dX0_barIn_52 : decode cX0_barIn 52 = .ok (.iload_n 2, 1) := by decide +kernel
theorem dX0_barIn_53 : decode cX0_barIn 53 = .ok (.iaload, 1) := by decide +kernel
theorem dX0_barIn_54 : decode cX0_barIn 54 = .ok (.aload_n 0, 1) := by decide +kernel
theorem dX0_barIn_55 : decode cX0_barIn 55 = .ok (.getfield 24, 3) := by decide +kernel
theorem dX0_barIn_58 : decode cX0_barIn 58 = .ok (.iload_n 2, 1) := by decide +kernel
theorem dX0_barIn_59 : decode cX0_barIn 59 = .ok (.iaload, 1) := by decide +kernel
theorem dX0_barIn_60 : decode cX0_barIn 60 = .ok (.invokevirtual 55, 3) := by decide +kernel
theorem dX0_barIn_63 : decode cX0_barIn 63 = .ok (.ifCond .ne 5, 3) := by decide +kernel
theorem dX0_barIn_66 : decode cX0_barIn 66 = .ok (.iconst 1, 1) := by decide +kernel
theorem dX0_barIn_67 : decode cX0_barIn 67 = .ok (.ireturn, 1) := by decide +kernel
theorem dX0_barIn_68 : decode cX0_barIn 68 = .ok (.iinc 2 1, 3) := by decide +kernel
theorem dX0_barIn_71 : decode cX0_barIn 71 = .ok (.goto (-32), 3) := by decide +kernel
theorem dX0_barIn_74 : decode cX0_barIn 74 = .ok (.iconst 0, 1) := by decide +kernel
theorem dX0_barIn_75 : decode cX0_barIn 75 = .ok (.istore_n 2, 1) := by decide +kernel
theorem dX0_barIn_76 : decode cX0_barIn 76 = .ok (.iload_n 2, 1) := by decide +kernel
theorem dX0_barIn_77 : decode cX0_barIn 77 = .ok (.aload_n 0, 1) := by decide +kernel
theorem dX0_barIn_78 : decode cX0_barIn 78 = .ok (.getfield 40, 3) := by decide +kernel
theorem dX0_barIn_81 : decode cX0_barIn 81 = .ok (.if_icmp .ge 30, 3) := by decide +kernel
theorem dX0_barIn_84 : decode cX0_barIn 84 = .ok (.aload_n 1, 1) := by decide +kernel
theorem dX0_barIn_85 : decode cX0_barIn 85 = .ok (.aload_n 0, 1) := by decide +kernel
theorem dX0_barIn_86 : decode cX0_barIn 86 = .ok (.getfield 27, 3) := by decide +kernel
theorem dX0_barIn_89 : decode cX0_barIn 89 = .ok (.iload_n 2, 1) := by decide +kernel
theorem dX0_barIn_90 : decode cX0_barIn 90 = .ok (.iaload, 1) := by decide +kernel
theorem dX0_barIn_91 : decode cX0_barIn 91 = .ok (.aload_n 0, 1) := by decide +kernel
theorem dX0_barIn_92 : decode cX0_barIn 92 = .ok (.getfield 30, 3) := by decide +kernel
theorem dX0_barIn_95 : decode cX0_barIn 95 = .ok (.iload_n 2, 1) := by decide +kernel
theorem dX0_barIn_96 : decode cX0_barIn 96 = .ok (.iaload, 1) := by decide +kernel
theorem dX0_barIn_97 : decode cX0_barIn 97 = .ok (.invokevirtual 58, 3) := by decide +kernel
theorem dX0_barIn_100 : decode cX0_barIn 100 = .ok (.ifCond .eq 5, 3) := by decide +kernel
theorem dX0_barIn_103 : decode cX0_barIn 103 = .ok (.iconst 1, 1) := by decide +kernel
theorem dX0_barIn_104 : decode cX0_barIn 104 = .ok (.ireturn, 1) := by decide +kernel
theorem dX0_barIn_105 : decode cX0_barIn 105 = .ok (.iinc 2 1, 3) := by decide +kernel
theorem dX0_barIn_108 : decode cX0_barIn 108 = .ok (.goto (-32), 3) := by decide +kernel
theorem dX0_barIn_111 : decode cX0_barIn 111 = .ok (.iconst 1, 1) := by decide +kernel
theorem dX0_barIn_112 : decode cX0_barIn 112 = .ok (.istore_n 2, 1) := by decide +kernel
theorem dX0_barIn_113 : decode cX0_barIn 113 = .ok (.iload_n 2, 1) := by decide +kernel
theorem dX0_barIn_114 : decode cX0_barIn 114 = .ok (.bipush 8, 2) := by decide +kernel
theorem dX0_barIn_116 : decode cX0_barIn 116 = .ok (.if_icmp .ge 43, 3) := by decide +kernel
theorem dX0_barIn_119 : decode cX0_barIn 119 = .ok (.iconst 0, 1) := by decide +kernel
theorem dX0_barIn_120 : decode cX0_barIn 120 = .ok (.istore_n 3, 1) := by decide +kernel
theorem dX0_barIn_121 : decode cX0_barIn 121 = .ok (.iload_n 3, 1) := by decide +kernel
theorem dX0_barIn_122 : decode cX0_barIn 122 = .ok (.iload_n 2, 1) := by decide +kernel
theorem dX0_barIn_123 : decode cX0_barIn 123 = .ok (.if_icmp .ge 30, 3) := by decide +kernel
theorem dX0_barIn_126 : decode cX0_barIn 126 = .ok (.aload_n 1, 1) := by decide +kernel
theorem dX0_barIn_127 : decode cX0_barIn 127 = .ok (.aload_n 0, 1) := by decide +kernel
theorem dX0_barIn_128 : decode cX0_barIn 128 = .ok (.getfield 9, 3) := by decide +kernel
theorem dX0_barIn_131 : decode cX0_barIn 131 = .ok (.iload_n 2, 1) := by decide +kernel
theorem dX0_barIn_132 : decode cX0_barIn 132 = .ok (.iaload, 1) := by decide +kernel
theorem dX0_barIn_133 : decode cX0_barIn 133 = .ok (.aload_n 0, 1) := by decide +kernel
theorem dX0_barIn_134 : decode cX0_barIn 134 = .ok (.getfield 9, 3) := by decide +kernel
theorem dX0_barIn_137 : decode cX0_barIn 137 = .ok (.iload_n 3, 1) := by decide +kernel
theorem dX0_barIn_138 : decode cX0_barIn 138 = .ok (.iaload, 1) := by decide +kernel
theorem dX0_barIn_139 : decode cX0_barIn 139 = .ok (.invokevirtual 58, 3) := by decide +kernel
theorem dX0_barIn_142 : decode cX0_barIn 142 = .ok (.ifCond .eq 5, 3) := by decide +kernel
theorem dX0_barIn_145 : decode cX0_barIn 145 = .ok (.iconst 1, 1) := by decide +kernel
theorem dX0_barIn_146 : decode cX0_barIn 146 = .ok (.ireturn, 1) := by decide +kernel
theorem dX0_barIn_147 : decode cX0_barIn 147 = .ok (.iinc 3 1, 3) := by decide +kernel
theorem dX0_barIn_150 : decode cX0_barIn 150 = .ok (.goto (-29), 3) := by decide +kernel
theorem dX0_barIn_153 : decode cX0_barIn 153 = .ok (.iinc 2 1, 3) := by decide +kernel
theorem dX0_barIn_156 : decode cX0_barIn 156 = .ok (.goto (-43), 3) := by decide +kernel
theorem dX0_barIn_159 : decode cX0_barIn 159 = .ok (.aload_n 1, 1) := by decide +kernel
theorem dX0_barIn_160 : decode cX0_barIn 160 = .ok (.invokevirtual 61, 3) := by decide +kernel
theorem dX0_barIn_163 : decode cX0_barIn 163 = .ok (.ireturn, 1) := by decide +kernel
theorem dX1_init_0 : decode cX1_init 0 = .ok (.aload_n 0, 1) := by decide +kernel
theorem dX1_init_1 : decode cX1_init 1 = .ok (.invokespecial 1, 3) := by decide +kernel
theorem dX1_init_4 : decode cX1_init 4 = .ok (.aload_n 0, 1) := by decide +kernel
theorem dX1_init_5 : decode cX1_init 5 = .ok (.iload_n 1, 1) := by decide +kernel
theorem dX1_init_6 : decode cX1_init 6 = .ok (.newarray .int, 2) := by decide +kernel
theorem dX1_init_8 : decode cX1_init 8 = .ok (.putfield 7, 3) := by decide +kernel
theorem dX1_init_11 : decode cX1_init 11 = .ok (.aload_n 0, 1) := by decide +kernel
theorem dX1_init_12 : decode cX1_init 12 = .ok (.iload_n 1, 1) := by decide +kernel
theorem dX1_init_13 : decode cX1_init 13 = .ok (.newarray .int, 2) := by decide +kernel
theorem dX1_init_15 : decode cX1_init 15 = .ok (.putfield 13, 3) := by decide +kernel
theorem dX1_init_18 : decode cX1_init 18 = .ok (.aload_n 0, 1) := by decide +kernel
theorem dX1_init_19 : decode cX1_init 19 = .ok (.iload_n 1, 1) := by decide +kernel
theorem dX1_init_20 : decode cX1_init 20 = .ok (.newarray .int, 2) := by decide +kernel
theorem dX1_init_22 : decode cX1_init 22 = .ok (.putfield 16, 3) := by decide +kernel
theorem dX1_init_25 : decode cX1_init 25 = .ok (.aload_n 0, 1) := by decide +kernel
theorem dX1_init_26 : decode cX1_init 26 = .ok (.iload_n 1, 1) := by decide +kernel
theorem dX1_init_27 : decode cX1_init 27 = .ok (.newarray .int, 2) := by decide +kernel
theorem dX1_init_29 : decode cX1_init 29 = .ok (.putfield 19, 3) := by decide +kernel
theorem dX1_init_32 : decode cX1_init 32 = .ok (.aload_n 0, 1) := by decide +kernel
theorem dX1_init_33 : decode cX1_init 33 = .ok (.iload_n 1, 1) := by decide +kernel
theorem dX1_init_34 : decode cX1_init 34 = .ok (.newarray .int, 2) := by decide +kernel
theorem dX1_init_36 : decode cX1_init 36 = .ok (.putfield 22, 3) := by decide +kernel
theorem dX1_init_39 : decode cX1_init 39 = .ok (.aload_n 0, 1) := by decide +kernel
theorem dX1_init_40 : decode cX1_init 40 = .ok (.iload_n 1, 1) := by decide +kernel
theorem dX1_init_41 : decode cX1_init 41 = .ok (.newarray .int, 2) := by decide +kernel
theorem dX1_init_43 : decode cX1_init 43 = .ok (.putfield 25, 3) := by decide +kernel
theorem dX1_init_46 : decode cX1_init 46 = .ok (.aload_n 0, 1) := by decide +kernel
theorem dX1_init_47 : decode cX1_init 47 = .ok (.iload_n 1, 1) := by decide +kernel
theorem dX1_init_48 : decode cX1_init 48 = .ok (.newarray .int, 2) := by decide +kernel
theorem dX1_init_50 : decode cX1_init 50 = .ok (.putfield 28, 3) := by decide +kernel
theorem dX1_init_53 : decode cX1_init 53 = .ok (.aload_n 0, 1) := by decide +kernel
theorem dX1_init_54 : decode cX1_init 54 = .ok (.iload_n 1, 1) := by decide +kernel
theorem dX1_init_55 : decode cX1_init 55 = .ok (.newarray .int, 2) := by decide +kernel
theorem dX1_init_57 : decode cX1_init 57 = .ok (.putfield 31, 3) := by decide +kernel
theorem dX1_init_60 : decode cX1_init 60 = .ok (.aload_n 0, 1) := by decide +kernel
theorem dX1_init_61 : decode cX1_init 61 = .ok (.iload_n 2, 1) := by decide +kernel
theorem dX1_init_62 : decode cX1_init 62 = .ok (.newarray .int, 2) := by decide +kernel
theorem dX1_init_64 : decode cX1_init 64 = .ok (.putfield 34, 3) := by decide +kernel
theorem dX1_init_67 : decode cX1_init 67 = .ok (.return_, 1) := by decide +kernel
theorem dX1_dropAll_0 : decode cX1_dropAll 0 = .ok (.aload_n 0, 1) := by decide +kernel
theorem dX1_dropAll_1 : decode cX1_dropAll 1 = .ok (.iconst 0, 1) := by decide +kernel
theorem dX1_dropAll_2 : decode cX1_dropAll 2 = .ok (.putfield 37, 3) := by decide +kernel
theorem dX1_dropAll_5 : decode cX1_dropAll 5 = .ok (.aload_n 0, 1) := by decide +kernel
theorem dX1_dropAll_6 : decode cX1_dropAll 6 = .ok (.iconst 0, 1) := by decide +kernel
theorem dX1_dropAll_7 : decode cX1_dropAll 7 = .ok (.putfield 41, 3) := by decide +kernel
theorem dX1_dropAll_10 : decode cX1_dropAll 10 = .ok (.aload_n 0, 1) := by decide +kernel
theorem dX1_dropAll_11 : decode cX1_dropAll 11 = .ok (.iconst 0, 1) := by decide +kernel
theorem dX1_dropAll_12 : decode cX1_dropAll 12 = .ok (.putfield 44, 3) := by decide +kernel
theorem dX1_dropAll_15 : decode cX1_dropAll 15 = .ok (.return_, 1) := by decide +kernel
theorem dX1_copyFrom_0 : decode cX1_copyFrom 0 = .ok (.aload_n 1, 1) := by decide +kernel
theorem dX1_copyFrom_1 : decode cX1_copyFrom 1 = .ok (.getfield 37, 3) := by decide +kernel
theorem dX1_copyFrom_4 : decode cX1_copyFrom 4 = .ok (.aload_n 0, 1) := by decide +kernel
theorem dX1_copyFrom_5 : decode cX1_copyFrom 5 = .ok (.getfield 7, 3) := by decide +kernel
theorem dX1_copyFrom_8 : decode cX1_copyFrom 8 = .ok (.arraylength, 1) := by decide +kernel
theorem dX1_copyFrom_9 : decode cX1_copyFrom 9 = .ok (.invokestatic 47, 3) := by decide +kernel
theorem dX1_copyFrom_12 : decode cX1_copyFrom 12 = .ok (.istore_n 2, 1) := by decide +kernel
theorem dX1_copyFrom_13 : decode cX1_copyFrom 13 = .ok (.aload_n 1, 1) := by decide +kernel
theorem dX1_copyFrom_14 : decode cX1_copyFrom 14 = .ok (.getfield 7, 3) := by decide +kernel
theorem dX1_copyFrom_17 : decode cX1_copyFrom 17 = .ok (.iconst 0, 1) := by decide +kernel
theorem dX1_copyFrom_18 : decode cX1_copyFrom 18 = .ok (.aload_n 0, 1) := by decide +kernel
theorem dX1_copyFrom_19 : decode cX1_copyFrom 19 = .ok (.getfield 7, 3) := by decide +kernel
theorem dX1_copyFrom_22 : decode cX1_copyFrom 22 = .ok (.iconst 0, 1) := by decide +kernel
theorem dX1_copyFrom_23 : decode cX1_copyFrom 23 = .ok (.iload_n 2, 1) := by decide +kernel
theorem dX1_copyFrom_24 : decode cX1_copyFrom 24 = .ok (.invokestatic 53, 3) := by decide +kernel
theorem dX1_copyFrom_27 : decode cX1_copyFrom 27 = .ok (.aload_n 1, 1) := by decide +kernel
theorem dX1_copyFrom_28 : decode cX1_copyFrom 28 = .ok (.getfield 13, 3) := by decide +kernel
theorem dX1_copyFrom_31 : decode cX1_copyFrom 31 = .ok (.iconst 0, 1) := by decide +kernel
theorem dX1_copyFrom_32 : decode cX1_copyFrom 32 = .ok (.aload_n 0, 1) := by decide +kernel
theorem dX1_copyFrom_33 : decode cX1_copyFrom 33 = .ok (.getfield 13, 3) := by decide +kernel
theorem dX1_copyFrom_36 : decode cX1_copyFrom 36 = .ok (.iconst 0, 1) := by decide +kernel
theorem dX1_copyFrom_37 : decode cX1_copyFrom 37 = .ok (.iload_n 2, 1) := by decide +kernel
theorem dX1_copyFrom_38 : decode cX1_copyFrom 38 = .ok (.invokestatic 53, 3) := by decide +kernel
theorem dX1_copyFrom_41 : decode cX1_copyFrom 41 = .ok (.aload_n 1, 1) := by decide +kernel
theorem dX1_copyFrom_42 : decode cX1_copyFrom 42 = .ok (.getfield 16, 3) := by decide +kernel
theorem dX1_copyFrom_45 : decode cX1_copyFrom 45 = .ok (.iconst 0, 1) := by decide +kernel
theorem dX1_copyFrom_46 : decode cX1_copyFrom 46 = .ok (.aload_n 0, 1) := by decide +kernel
theorem dX1_copyFrom_47 : decode cX1_copyFrom 47 = .ok (.getfield 16, 3) := by decide +kernel
theorem dX1_copyFrom_50 : decode cX1_copyFrom 50 = .ok (.iconst 0, 1) := by decide +kernel
theorem dX1_copyFrom_51 : decode cX1_copyFrom 51 = .ok (.iload_n 2, 1) := by decide +kernel
theorem dX1_copyFrom_52 : decode cX1_copyFrom 52 = .ok (.invokestatic 53, 3) := by decide +kernel
theorem dX1_copyFrom_55 : decode cX1_copyFrom 55 = .ok (.aload_n 1, 1) := by decide +kernel
theorem dX1_copyFrom_56 : decode cX1_copyFrom 56 = .ok (.getfield 19, 3) := by decide +kernel
theorem dX1_copyFrom_59 : decode cX1_copyFrom 59 = .ok (.iconst 0, 1) := by decide +kernel
theorem dX1_copyFrom_60 : decode cX1_copyFrom 60 = .ok (.aload_n 0, 1) := by decide +kernel
theorem dX1_copyFrom_61 : decode cX1_copyFrom 61 = .ok (.getfield 19, 3) := by decide +kernel
theorem dX1_copyFrom_64 : decode cX1_copyFrom 64 = .ok (.iconst 0, 1) := by decide +kernel
theorem dX1_copyFrom_65 : decode cX1_copyFrom 65 = .ok (.iload_n 2, 1) := by decide +kernel
theorem dX1_copyFrom_66 : decode cX1_copyFrom 66 = .ok (.invokestatic 53, 3) := by decide +kernel
theorem dX1_copyFrom_69 : decode cX1_copyFrom 69 = .ok (.aload_n 1, 1) := by decide +kernel
theorem dX1_copyFrom_70 : decode cX1_copyFrom 70 = .ok (.getfield 22, 3) := by decide +kernel
theorem dX1_copyFrom_73 : decode cX1_copyFrom 73 = .ok (.iconst 0, 1) := by decide +kernel
theorem dX1_copyFrom_74 : decode cX1_copyFrom 74 = .ok (.aload_n 0, 1) := by decide +kernel
theorem dX1_copyFrom_75 : decode cX1_copyFrom 75 = .ok (.getfield 22, 3) := by decide +kernel
theorem dX1_copyFrom_78 : decode cX1_copyFrom 78 = .ok (.iconst 0, 1) := by decide +kernel
theorem dX1_copyFrom_79 : decode cX1_copyFrom 79 = .ok (.iload_n 2, 1) := by decide +kernel
theorem dX1_copyFrom_80 : decode cX1_copyFrom 80 = .ok (.invokestatic 53, 3) := by decide +kernel
theorem dX1_copyFrom_83 : decode cX1_copyFrom 83 = .ok (.aload_n 1, 1) := by decide +kernel
theorem dX1_copyFrom_84 : decode cX1_copyFrom 84 = .ok (.getfield 25, 3) := by decide +kernel
theorem dX1_copyFrom_87 : decode cX1_copyFrom 87 = .ok (.iconst 0, 1) := by decide +kernel
theorem dX1_copyFrom_88 : decode cX1_copyFrom 88 = .ok (.aload_n 0, 1) := by decide +kernel
theorem dX1_copyFrom_89 : decode cX1_copyFrom 89 = .ok (.getfield 25, 3) := by decide +kernel
theorem dX1_copyFrom_92 : decode cX1_copyFrom 92 = .ok (.iconst 0, 1) := by decide +kernel
theorem dX1_copyFrom_93 : decode cX1_copyFrom 93 = .ok (.iload_n 2, 1) := by decide +kernel
theorem dX1_copyFrom_94 : decode cX1_copyFrom 94 = .ok (.invokestatic 53, 3) := by decide +kernel
theorem dX1_copyFrom_97 : decode cX1_copyFrom 97 = .ok (.aload_n 1, 1) := by decide +kernel
theorem dX1_copyFrom_98 : decode cX1_copyFrom 98 = .ok (.getfield 28, 3) := by decide +kernel
theorem dX1_copyFrom_101 : decode cX1_copyFrom 101 = .ok (.iconst 0, 1) := by decide +kernel
theorem dX1_copyFrom_102 : decode cX1_copyFrom 102 = .ok (.aload_n 0, 1) := by decide +kernel
theorem dX1_copyFrom_103 : decode cX1_copyFrom 103 = .ok (.getfield 28, 3) := by decide +kernel
theorem dX1_copyFrom_106 : decode cX1_copyFrom 106 = .ok (.iconst 0, 1) := by decide +kernel
theorem dX1_copyFrom_107 : decode cX1_copyFrom 107 = .ok (.iload_n 2, 1) := by decide +kernel
theorem dX1_copyFrom_108 : decode cX1_copyFrom 108 = .ok (.invokestatic 53, 3) := by decide +kernel
theorem dX1_copyFrom_111 : decode cX1_copyFrom 111 = .ok (.aload_n 0, 1) := by decide +kernel
theorem dX1_copyFrom_112 : decode cX1_copyFrom 112 = .ok (.iload_n 2, 1) := by decide +kernel
theorem dX1_copyFrom_113 : decode cX1_copyFrom 113 = .ok (.putfield 37, 3) := by decide +kernel
theorem dX1_copyFrom_116 : decode cX1_copyFrom 116 = .ok (.aload_n 0, 1) := by decide +kernel
theorem dX1_copyFrom_117 : decode cX1_copyFrom 117 = .ok (.aload_n 1, 1) := by decide +kernel
theorem dX1_copyFrom_118 : decode cX1_copyFrom 118 = .ok (.getfield 41, 3) := by decide +kernel
theorem dX1_copyFrom_121 : decode cX1_copyFrom 121 = .ok (.aload_n 0, 1) := by decide +kernel
theorem dX1_copyFrom_122 : decode cX1_copyFrom 122 = .ok (.getfield 34, 3) := by decide +kernel
theorem dX1_copyFrom_125 : decode cX1_copyFrom 125 = .ok (.arraylength, 1) := by decide +kernel
theorem dX1_copyFrom_126 : decode cX1_copyFrom 126 = .ok (.invokestatic 47, 3) := by decide +kernel
theorem dX1_copyFrom_129 : decode cX1_copyFrom 129 = .ok (.putfield 41, 3) := by decide +kernel
theorem dX1_copyFrom_132 : decode cX1_copyFrom 132 = .ok (.aload_n 1, 1) := by decide +kernel
theorem dX1_copyFrom_133 : decode cX1_copyFrom 133 = .ok (.getfield 34, 3) := by decide +kernel
theorem dX1_copyFrom_136 : decode cX1_copyFrom 136 = .ok (.iconst 0, 1) := by decide +kernel
theorem dX1_copyFrom_137 : decode cX1_copyFrom 137 = .ok (.aload_n 0, 1) := by decide +kernel
theorem dX1_copyFrom_138 : decode cX1_copyFrom 138 = .ok (.getfield 34, 3) := by decide +kernel
theorem dX1_copyFrom_141 : decode cX1_copyFrom 141 = .ok (.iconst 0, 1) := by decide +kernel
theorem dX1_copyFrom_142 : decode cX1_copyFrom 142 = .ok (.aload_n 0, 1) := by decide +kernel
theorem dX1_copyFrom_143 : decode cX1_copyFrom 143 = .ok (.getfield 41, 3) := by decide +kernel
theorem dX1_copyFrom_146 : decode cX1_copyFrom 146 = .ok (.invokestatic 53, 3) := by decide +kernel
theorem dX1_copyFrom_149 : decode cX1_copyFrom 149 = .ok (.aload_n 0, 1) := by decide +kernel
theorem dX1_copyFrom_150 : decode cX1_copyFrom 150 = .ok (.iconst 0, 1) := by decide +kernel
theorem dX1_copyFrom_151 : decode cX1_copyFrom 151 = .ok (.putfield 44, 3) := by decide +kernel
theorem dX1_copyFrom_154 : decode cX1_copyFrom 154 = .ok (.return_, 1) := by decide +kernel
theorem dX1_addPlace_0 : decode cX1_addPlace 0 = .ok (.aload_n 0, 1) := by decide +kernel
theorem dX1_addPlace_1 : decode cX1_addPlace 1 = .ok (.getfield 41, 3) := by decide +kernel
theorem dX1_addPlace_4 : decode cX1_addPlace 4 = .ok (.aload_n 0, 1) := by decide +kernel
theorem dX1_addPlace_5 : decode cX1_addPlace 5 = .ok (.getfield 34, 3) := by decide +kernel
theorem dX1_addPlace_8 : decode cX1_addPlace 8 = .ok (.arraylength, 1) := by decide +kernel
theorem dX1_addPlace_9 : decode cX1_addPlace 9 = .ok (.if_icmp .lt 5, 3) := by decide +kernel
theorem dX1_addPlace_12 : decode cX1_addPlace 12 = .ok (.iconst (-1), 1) := by decide +kernel
theorem dX1_addPlace_13 : decode cX1_addPlace 13 = .ok (.ireturn, 1) := by decide +kernel
theorem dX1_addPlace_14 : decode cX1_addPlace 14 = .ok (.aload_n 0, 1) := by decide +kernel
theorem dX1_addPlace_15 : decode cX1_addPlace 15 = .ok (.getfield 34, 3) := by decide +kernel
theorem dX1_addPlace_18 : decode cX1_addPlace 18 = .ok (.aload_n 0, 1) := by decide +kernel
theorem dX1_addPlace_19 : decode cX1_addPlace 19 = .ok (.getfield 41, 3) := by decide +kernel
theorem dX1_addPlace_22 : decode cX1_addPlace 22 = .ok (.aload_n 0, 1) := by decide +kernel
theorem dX1_addPlace_23 : decode cX1_addPlace 23 = .ok (.getfield 41, 3) := by decide +kernel
theorem dX1_addPlace_26 : decode cX1_addPlace 26 = .ok (.iastore, 1) := by decide +kernel
theorem dX1_addPlace_27 : decode cX1_addPlace 27 = .ok (.aload_n 0, 1) := by decide +kernel
theorem dX1_addPlace_28 : decode cX1_addPlace 28 = .ok (.dup, 1) := by decide +kernel
theorem dX1_addPlace_29 : decode cX1_addPlace 29 = .ok (.getfield 41, 3) := by decide +kernel
theorem dX1_addPlace_32 : decode cX1_addPlace 32 = .ok (.iconst 1, 1) := by decide +kernel
theorem dX1_addPlace_33 : decode cX1_addPlace 33 = .ok (.iadd, 1) := by decide +kernel
theorem dX1_addPlace_34 : decode cX1_addPlace 34 = .ok (.putfield 41, 3) := by decide +kernel
theorem dX1_addPlace_37 : decode cX1_addPlace 37 = .ok (.aload_n 0, 1) := by decide +kernel
theorem dX1_addPlace_38 : decode cX1_addPlace 38 = .ok (.getfield 41, 3) := by decide +kernel
theorem dX1_addPlace_41 : decode cX1_addPlace 41 = .ok (.iconst 1, 1) := by decide +kernel
theorem dX1_addPlace_42 : decode cX1_addPlace 42 = .ok (.isub, 1) := by decide +kernel
theorem dX1_addPlace_43 : decode cX1_addPlace 43 = .ok (.ireturn, 1) := by decide +kernel
theorem dX1_addEnd_0 : decode cX1_addEnd 0 = .ok (.iload_n 1, 1) := by decide +kernel
theorem dX1_addEnd_1 : decode cX1_addEnd 1 = .ok (.ifCond .lt 23, 3) := by decide +kernel
theorem dX1_addEnd_4 : decode cX1_addEnd 4 = .ok (.iload_n 1, 1) := by decide +kernel
theorem dX1_addEnd_5 : decode cX1_addEnd 5 = .ok (.aload_n 0, 1) := by decide +kernel
theorem dX1_addEnd_6 : decode cX1_addEnd 6 = .ok (.getfield 41, 3) := by decide +kernel
theorem dX1_addEnd_9 : decode cX1_addEnd 9 = .ok (.if_icmp .ge 15, 3) := by decide +kernel
theorem dX1_addEnd_12 : decode cX1_addEnd 12 = .ok (.aload_n 0, 1) := by decide +kernel
theorem dX1_addEnd_13 : decode cX1_addEnd 13 = .ok (.getfield 37, 3) := by decide +kernel
theorem dX1_addEnd_16 : decode cX1_addEnd 16 = .ok (.aload_n 0, 1) := by decide +kernel
theorem dX1_addEnd_17 : decode cX1_addEnd 17 = .ok (.getfield 7, 3) := by decide +kernel
theorem dX1_addEnd_20 : decode cX1_addEnd 20 = .ok (.arraylength, 1) := by decide +kernel
theorem dX1_addEnd_21 : decode cX1_addEnd 21 = .ok (.if_icmp .lt 5, 3) := by decide +kernel
theorem dX1_addEnd_24 : decode cX1_addEnd 24 = .ok (.iconst (-1), 1) := by decide +kernel
theorem dX1_addEnd_25 : decode cX1_addEnd 25 = .ok (.ireturn, 1) := by decide +kernel
theorem dX1_addEnd_26 : decode cX1_addEnd 26 = .ok (.aload_n 0, 1) := by decide +kernel
theorem dX1_addEnd_27 : decode cX1_addEnd 27 = .ok (.getfield 37, 3) := by decide +kernel
theorem dX1_addEnd_30 : decode cX1_addEnd 30 = .ok (.istore_n 2, 1) := by decide +kernel
theorem dX1_addEnd_31 : decode cX1_addEnd 31 = .ok (.aload_n 0, 1) := by decide +kernel
theorem dX1_addEnd_32 : decode cX1_addEnd 32 = .ok (.dup, 1) := by decide +kernel
theorem dX1_addEnd_33 : decode cX1_addEnd 33 = .ok (.getfield 37, 3) := by decide +kernel
theorem dX1_addEnd_36 : decode cX1_addEnd 36 = .ok (.iconst 1, 1) := by decide +kernel
theorem dX1_addEnd_37 : decode cX1_addEnd 37 = .ok (.iadd, 1) := by decide +kernel
theorem dX1_addEnd_38 : decode cX1_addEnd 38 = .ok (.putfield 37, 3) := by decide +kernel
theorem dX1_addEnd_41 : decode cX1_addEnd 41 = .ok (.aload_n 0, 1) := by decide +kernel
theorem dX1_addEnd_42 : decode cX1_addEnd 42 = .ok (.getfield 7, 3) := by decide +kernel
theorem dX1_addEnd_45 : decode cX1_addEnd 45 = .ok (.iload_n 2, 1) := by decide +kernel
theorem dX1_addEnd_46 : decode cX1_addEnd 46 = .ok (.iload_n 2, 1) := by decide +kernel
theorem dX1_addEnd_47 : decode cX1_addEnd 47 = .ok (.iastore, 1) := by decide +kernel
theorem dX1_addEnd_48 : decode cX1_addEnd 48 = .ok (.aload_n 0, 1) := by decide +kernel
theorem dX1_addEnd_49 : decode cX1_addEnd 49 = .ok (.getfield 13, 3) := by decide +kernel
theorem dX1_addEnd_52 : decode cX1_addEnd 52 = .ok (.iload_n 2, 1) := by decide +kernel
theorem dX1_addEnd_53 : decode cX1_addEnd 53 = .ok (.iload_n 2, 1) := by decide +kernel
theorem dX1_addEnd_54 : decode cX1_addEnd 54 = .ok (.iastore, 1) := by decide +kernel
theorem dX1_addEnd_55 : decode cX1_addEnd 55 = .ok (.aload_n 0, 1) := by decide +kernel
theorem dX1_addEnd_56 : decode cX1_addEnd 56 = .ok (.getfield 16, 3) := by decide +kernel
theorem dX1_addEnd_59 : decode cX1_addEnd 59 = .ok (.iload_n 2, 1) := by decide +kernel
theorem dX1_addEnd_60 : decode cX1_addEnd 60 = .ok (.iconst 1, 1) := by decide +kernel
theorem dX1_addEnd_61 : decode cX1_addEnd 61 = .ok (.iastore, 1) := by decide +kernel
theorem dX1_addEnd_62 : decode cX1_addEnd 62 = .ok (.aload_n 0, 1) := by decide +kernel
theorem dX1_addEnd_63 : decode cX1_addEnd 63 = .ok (.getfield 19, 3) := by decide +kernel
theorem dX1_addEnd_66 : decode cX1_addEnd 66 = .ok (.iload_n 2, 1) := by decide +kernel
theorem dX1_addEnd_67 : decode cX1_addEnd 67 = .ok (.iconst (-1), 1) := by decide +kernel
theorem dX1_addEnd_68 : decode cX1_addEnd 68 = .ok (.iastore, 1) := by decide +kernel
theorem dX1_addEnd_69 : decode cX1_addEnd 69 = .ok (.aload_n 0, 1) := by decide +kernel
theorem dX1_addEnd_70 : decode cX1_addEnd 70 = .ok (.getfield 22, 3) := by decide +kernel
theorem dX1_addEnd_73 : decode cX1_addEnd 73 = .ok (.iload_n 2, 1) := by decide +kernel
theorem dX1_addEnd_74 : decode cX1_addEnd 74 = .ok (.iconst (-1), 1) := by decide +kernel
theorem dX1_addEnd_75 : decode cX1_addEnd 75 = .ok (.iastore, 1) := by decide +kernel
theorem dX1_addEnd_76 : decode cX1_addEnd 76 = .ok (.aload_n 0, 1) := by decide +kernel
theorem dX1_addEnd_77 : decode cX1_addEnd 77 = .ok (.getfield 25, 3) := by decide +kernel
theorem dX1_addEnd_80 : decode cX1_addEnd 80 = .ok (.iload_n 2, 1) := by decide +kernel
theorem dX1_addEnd_81 : decode cX1_addEnd 81 = .ok (.iconst (-1), 1) := by decide +kernel
theorem dX1_addEnd_82 : decode cX1_addEnd 82 = .ok (.iastore, 1) := by decide +kernel
theorem dX1_addEnd_83 : decode cX1_addEnd 83 = .ok (.aload_n 0, 1) := by decide +kernel
theorem dX1_addEnd_84 : decode cX1_addEnd 84 = .ok (.getfield 28, 3) := by decide +kernel
theorem dX1_addEnd_87 : decode cX1_addEnd 87 = .ok (.iload_n 2, 1) := by decide +kernel
theorem dX1_addEnd_88 : decode cX1_addEnd 88 = .ok (.iload_n 1, 1) := by decide +kernel
theorem dX1_addEnd_89 : decode cX1_addEnd 89 = .ok (.iastore, 1) := by decide +kernel
theorem dX1_addEnd_90 : decode cX1_addEnd 90 = .ok (.iload_n 2, 1) := by decide +kernel
theorem dX1_addEnd_91 : decode cX1_addEnd 91 = .ok (.ireturn, 1) := by decide +kernel
theorem dX1_holds_0 : decode cX1_holds 0 = .ok (.iload_n 1, 1) := by decide +kernel
theorem dX1_holds_1 : decode cX1_holds 1 = .ok (.ifCond .lt 15, 3) := by decide +kernel
theorem dX1_holds_4 : decode cX1_holds 4 = .ok (.iload_n 1, 1) := by decide +kernel
theorem dX1_holds_5 : decode cX1_holds 5 = .ok (.aload_n 0, 1) := by decide +kernel
theorem dX1_holds_6 : decode cX1_holds 6 = .ok (.getfield 37, 3) := by decide +kernel
theorem dX1_holds_9 : decode cX1_holds 9 = .ok (.if_icmp .ge 7, 3) := by decide +kernel
theorem dX1_holds_12 : decode cX1_holds 12 = .ok (.iconst 1, 1) := by decide +kernel
theorem dX1_holds_13 : decode cX1_holds 13 = .ok (.goto 4, 3) := by decide +kernel
theorem dX1_holds_16 : decode cX1_holds 16 = .ok (.iconst 0, 1) := by decide +kernel
theorem dX1_holds_17 : decode cX1_holds 17 = .ok (.ireturn, 1) := by decide +kernel
theorem dX1_tellOn_0 : decode cX1_tellOn 0 = .ok (.aload_n 0, 1) := by decide +kernel
theorem dX1_tellOn_1 : decode cX1_tellOn 1 = .ok (.iload_n 1, 1) := by decide +kernel
theorem dX1_tellOn_2 : decode cX1_tellOn 2 = .ok (.invokevirtual 59, 3) := by decide +kernel
theorem dX1_tellOn_5 : decode cX1_tellOn 5 = .ok (.ifCond .ne 5, 3) := by decide +kernel
theorem dX1_tellOn_8 : decode cX1_tellOn 8 = .ok (.iconst (-1), 1) := by decide +kernel
theorem dX1_tellOn_9 : decode cX1_tellOn 9 = .ok (.ireturn, 1) := by decide +kernel
theorem dX1_tellOn_10 : decode cX1_tellOn 10 = .ok (.aload_n 0, 1) := by decide +kernel
theorem dX1_tellOn_11 : decode cX1_tellOn 11 = .ok (.getfield 7, 3) := by decide +kernel
theorem dX1_tellOn_14 : decode cX1_tellOn 14 = .ok (.iload_n 1, 1) := by decide +kernel
theorem dX1_tellOn_15 : decode cX1_tellOn 15 = .ok (.iaload, 1) := by decide +kernel
theorem dX1_tellOn_16 : decode cX1_tellOn 16 = .ok (.istore_n 3, 1) := by decide +kernel
theorem dX1_tellOn_17 : decode cX1_tellOn 17 = .ok (.iconst 0, 1) := by decide +kernel
theorem dX1_tellOn_18 : decode cX1_tellOn 18 = .ok (.istore 4, 2) := by decide +kernel
theorem dX1_tellOn_20 : decode cX1_tellOn 20 = .ok (.iload 4, 2) := by decide +kernel
theorem dX1_tellOn_22 : decode cX1_tellOn 22 = .ok (.iload_n 2, 1) := by decide +kernel
theorem dX1_tellOn_23 : decode cX1_tellOn 23 = .ok (.if_icmp .ge 65, 3) := by decide +kernel
theorem dX1_tellOn_26 : decode cX1_tellOn 26 = .ok (.aload_n 0, 1) := by decide +kernel
theorem dX1_tellOn_27 : decode cX1_tellOn 27 = .ok (.getfield 19, 3) := by decide +kernel
theorem dX1_tellOn_30 : decode cX1_tellOn 30 = .ok (.iload_n 3, 1) := by decide +kernel
theorem dX1_tellOn_31 : decode cX1_tellOn 31 = .ok (.iaload, 1) := by decide +kernel
theorem dX1_tellOn_32 : decode cX1_tellOn 32 = .ok (.ifCond .ge 38, 3) := by decide +kernel
theorem dX1_tellOn_35 : decode cX1_tellOn 35 = .ok (.aload_n 0, 1) := by decide +kernel
theorem dX1_tellOn_36 : decode cX1_tellOn 36 = .ok (.aload_n 0, 1) := by decide +kernel
theorem dX1_tellOn_37 : decode cX1_tellOn 37 = .ok (.getfield 28, 3) := by decide +kernel
theorem dX1_tellOn_40 : decode cX1_tellOn 40 = .ok (.iload_n 3, 1) := by decide +kernel
theorem dX1_tellOn_41 : decode cX1_tellOn 41 = .ok (.iaload, 1) := by decide +kernel
theorem dX1_tellOn_42 : decode cX1_tellOn 42 = .ok (.invokevirtual 63, 3) := by decide +kernel
theorem dX1_tellOn_45 : decode cX1_tellOn 45 = .ok (.istore 5, 2) := by decide +kernel
theorem dX1_tellOn_47 : decode cX1_tellOn 47 = .ok (.iload 5, 2) := by decide +kernel
theorem dX1_tellOn_49 : decode cX1_tellOn 49 = .ok (.ifCond .ge 5, 3) := by decide +kernel
theorem dX1_tellOn_52 : decode cX1_tellOn 52 = .ok (.iconst (-1), 1) := by decide +kernel
theorem dX1_tellOn_53 : decode cX1_tellOn 53 = .ok (.ireturn, 1) := by decide +kernel
theorem dX1_tellOn_54 : decode cX1_tellOn 54 = .ok (.aload_n 0, 1) := by decide +kernel
theorem dX1_tellOn_55 : decode cX1_tellOn 55 = .ok (.getfield 19, 3) := by decide +kernel
theorem dX1_tellOn_58 : decode cX1_tellOn 58 = .ok (.iload_n 3, 1) := by decide +kernel
theorem dX1_tellOn_59 : decode cX1_tellOn 59 = .ok (.iload 5, 2) := by decide +kernel
theorem dX1_tellOn_61 : decode cX1_tellOn 61 = .ok (.iastore, 1) := by decide +kernel
theorem dX1_tellOn_62 : decode cX1_tellOn 62 = .ok (.aload_n 0, 1) := by decide +kernel
theorem dX1_tellOn_63 : decode cX1_tellOn 63 = .ok (.getfield 22, 3) := by decide +kernel
theorem dX1_tellOn_66 : decode cX1_tellOn 66 = .ok (.iload 5, 2) := by decide +kernel
theorem dX1_tellOn_68 : decode cX1_tellOn 68 = .ok (.iload_n 3, 1) := by decide +kernel
theorem dX1_tellOn_69 : decode cX1_tellOn 69 = .ok (.iastore, 1) := by decide +kernel
theorem dX1_tellOn_70 : decode cX1_tellOn 70 = .ok (.aload_n 0, 1) := by decide +kernel
theorem dX1_tellOn_71 : decode cX1_tellOn 71 = .ok (.getfield 7, 3) := by decide +kernel
theorem dX1_tellOn_74 : decode cX1_tellOn 74 = .ok (.aload_n 0, 1) := by decide +kernel
theorem dX1_tellOn_75 : decode cX1_tellOn 75 = .ok (.getfield 19, 3) := by decide +kernel
theorem dX1_tellOn_78 : decode cX1_tellOn 78 = .ok (.iload_n 3, 1) := by decide +kernel
theorem dX1_tellOn_79 : decode cX1_tellOn 79 = .ok (.iaload, 1) := by decide +kernel
theorem dX1_tellOn_80 : decode cX1_tellOn 80 = .ok (.iaload, 1) := by decide +kernel
theorem dX1_tellOn_81 : decode cX1_tellOn 81 = .ok (.istore_n 3, 1) := by decide +kernel
theorem dX1_tellOn_82 : decode cX1_tellOn 82 = .ok (.iinc 4 1, 3) := by decide +kernel
theorem dX1_tellOn_85 : decode cX1_tellOn 85 = .ok (.goto (-65), 3) := by decide +kernel
theorem dX1_tellOn_88 : decode cX1_tellOn 88 = .ok (.iload_n 3, 1) := by decide +kernel
theorem dX1_tellOn_89 : decode cX1_tellOn 89 = .ok (.ireturn, 1) := by decide +kernel
theorem dX1_tellAcross_0 : decode cX1_tellAcross 0 = .ok (.aload_n 0, 1) := by decide +kernel
theorem dX1_tellAcross_1 : decode cX1_tellAcross 1 = .ok (.iload_n 1, 1) := by decide +kernel
theorem dX1_tellAcross_2 : decode cX1_tellAcross 2 = .ok (.invokevirtual 59, 3) := by decide +kernel
theorem dX1_tellAcross_5 : decode cX1_tellAcross 5 = .ok (.ifCond .ne 5, 3) := by decide +kernel
theorem dX1_tellAcross_8 : decode cX1_tellAcross 8 = .ok (.iconst (-1), 1) := by decide +kernel
theorem dX1_tellAcross_9 : decode cX1_tellAcross 9 = .ok (.ireturn, 1) := by decide +kernel
theorem dX1_tellAcross_10 : decode cX1_tellAcross 10 = .ok (.aload_n 0, 1) := by decide +kernel
theorem dX1_tellAcross_11 : decode cX1_tellAcross 11 = .ok (.getfield 7, 3) := by decide +kernel
theorem dX1_tellAcross_14 : decode cX1_tellAcross 14 = .ok (.iload_n 1, 1) := by decide +kernel
theorem dX1_tellAcross_15 : decode cX1_tellAcross 15 = .ok (.iaload, 1) := by decide +kernel
theorem dX1_tellAcross_16 : decode cX1_tellAcross 16 = .ok (.istore_n 2, 1) := by decide +kernel
theorem dX1_tellAcross_17 : decode cX1_tellAcross 17 = .ok (.aload_n 0, 1) := by decide +kernel
theorem dX1_tellAcross_18 : decode cX1_tellAcross 18 = .ok (.getfield 25, 3) := by decide +kernel
theorem dX1_tellAcross_21 : decode cX1_tellAcross 21 = .ok (.iload_n 2, 1) := by decide +kernel
theorem dX1_tellAcross_22 : decode cX1_tellAcross 22 = .ok (.iaload, 1) := by decide +kernel
theorem dX1_tellAcross_23 : decode cX1_tellAcross 23 = .ok (.ifCond .ge 32, 3) := by decide +kernel
theorem dX1_tellAcross_26 : decode cX1_tellAcross 26 = .ok (.aload_n 0, 1) := by decide +kernel
theorem dX1_tellAcross_27 : decode cX1_tellAcross 27 = .ok (.aload_n 0, 1) := by decide +kernel
theorem dX1_tellAcross_28 : decode cX1_tellAcross 28 = .ok (.invokevirtual 67, 3) := by decide +kernel
theorem dX1_tellAcross_31 : decode cX1_tellAcross 31 = .ok (.invokevirtual 63, 3) := by decide +kernel
theorem dX1_tellAcross_34 : decode cX1_tellAcross 34 = .ok (.istore_n 3, 1) := by decide +kernel
theorem dX1_tellAcross_35 : decode cX1_tellAcross 35 = .ok (.iload_n 3, 1) := by decide +kernel
theorem dX1_tellAcross_36 : decode cX1_tellAcross 36 = .ok (.ifCond .ge 5, 3) := by decide +kernel
theorem dX1_tellAcross_39 : decode cX1_tellAcross 39 = .ok (.iconst (-1), 1) := by decide +kernel
theorem dX1_tellAcross_40 : decode cX1_tellAcross 40 = .ok (.ireturn, 1) := by decide +kernel
theorem dX1_tellAcross_41 : decode cX1_tellAcross 41 = .ok (.aload_n 0, 1) := by decide +kernel
theorem dX1_tellAcross_42 : decode cX1_tellAcross 42 = .ok (.getfield 25, 3) := by decide +kernel
theorem dX1_tellAcross_45 : decode cX1_tellAcross 45 = .ok (.iload_n 2, 1) := by decide +kernel
theorem dX1_tellAcross_46 : decode cX1_tellAcross 46 = .ok (.iload_n 3, 1) := by decide +kernel
theorem dX1_tellAcross_47 : decode cX1_tellAcross 47 = .ok (.iastore, 1) := by decide +kernel
theorem dX1_tellAcross_48 : decode cX1_tellAcross 48 = .ok (.aload_n 0, 1) := by decide +kernel
theorem dX1_tellAcross_49 : decode cX1_tellAcross 49 = .ok (.getfield 25, 3) := by decide +kernel
theorem dX1_tellAcross_52 : decode cX1_tellAcross 52 = .ok (.iload_n 3, 1) := by decide +kernel
theorem dX1_tellAcross_53 : decode cX1_tellAcross 53 = .ok (.iload_n 2, 1) := by decide +kernel
theorem dX1_tellAcross_54 : decode cX1_tellAcross 54 = .ok (.iastore, 1) := by decide +kernel
theorem dX1_tellAcross_55 : decode cX1_tellAcross 55 = .ok (.aload_n 0, 1) := by decide +kernel
theorem dX1_tellAcross_56 : decode cX1_tellAcross 56 = .ok (.getfield 7, 3) := by decide +kernel
theorem dX1_tellAcross_59 : decode cX1_tellAcross 59 = .ok (.aload_n 0, 1) := by decide +kernel
theorem dX1_tellAcross_60 : decode cX1_tellAcross 60 = .ok (.getfield 25, 3) := by decide +kernel
theorem dX1_tellAcross_63 : decode cX1_tellAcross 63 = .ok (.iload_n 2, 1) := by decide +kernel
theorem dX1_tellAcross_64 : decode cX1_tellAcross 64 = .ok (.iaload, 1) := by decide +kernel
theorem dX1_tellAcross_65 : decode cX1_tellAcross 65 = .ok (.iaload, 1) := by decide +kernel
theorem dX1_tellAcross_66 : decode cX1_tellAcross 66 = .ok (.ireturn, 1) := by decide +kernel
theorem dX1_makeOne_0 : decode cX1_makeOne 0 = .ok (.aload_n 0, 1) := by decide +kernel
theorem dX1_makeOne_1 : decode cX1_makeOne 1 = .ok (.iload_n 1, 1) := by decide +kernel
theorem dX1_makeOne_2 : decode cX1_makeOne 2 = .ok (.invokevirtual 59, 3) := by decide +kernel
theorem dX1_makeOne_5 : decode cX1_makeOne 5 = .ok (.ifCond .eq 11, 3) := by decide +kernel
theorem dX1_makeOne_8 : decode cX1_makeOne 8 = .ok (.aload_n 0, 1) := by decide +kernel
theorem dX1_makeOne_9 : decode cX1_makeOne 9 = .ok (.iload_n 2, 1) := by decide +kernel
theorem dX1_makeOne_10 : decode cX1_makeOne 10 = .ok (.invokevirtual 59, 3) := by decide +kernel
theorem dX1_makeOne_13 : decode cX1_makeOne 13 = .ok (.ifCond .ne 4, 3) := by decide +kernel
theorem dX1_makeOne_16 : decode cX1_makeOne 16 = .ok (.return_, 1) := by decide +kernel
theorem dX1_makeOne_17 : decode cX1_makeOne 17 = .ok (.aload_n 0, 1) := by decide +kernel
theorem dX1_makeOne_18 : decode cX1_makeOne 18 = .ok (.iconst 0, 1) := by decide +kernel
theorem dX1_makeOne_19 : decode cX1_makeOne 19 = .ok (.putfield 44, 3) := by decide +kernel
theorem dX1_makeOne_22 : decode cX1_makeOne 22 = .ok (.aload_n 0, 1) := by decide +kernel
theorem dX1_makeOne_23 : decode cX1_makeOne 23 = .ok (.iload_n 1, 1) := by decide +kernel
theorem dX1_makeOne_24 : decode cX1_makeOne 24 = .ok (.iload_n 2, 1) := by decide +kernel
theorem dX1_makeOne_25 : decode cX1_makeOne 25 = .ok (.invokevirtual 71, 3) := by decide +kernel
theorem dX1_makeOne_28 : decode cX1_makeOne 28 = .ok (.iconst 0, 1) := by decide +kernel
theorem dX1_makeOne_29 : decode cX1_makeOne 29 = .ok (.istore_n 3, 1) := by decide +kernel
theorem dX1_makeOne_30 : decode cX1_makeOne 30 = .ok (.iload_n 3, 1) := by decide +kernel
theorem dX1_makeOne_31 : decode cX1_makeOne 31 = .ok (.aload_n 0, 1) := by decide +kernel
theorem dX1_makeOne_32 : decode cX1_makeOne 32 = .ok (.getfield 44, 3) := by decide +kernel
theorem dX1_makeOne_35 : decode cX1_makeOne 35 = .ok (.if_icmp .ge 131, 3) := by decide +kernel
theorem dX1_makeOne_38 : decode cX1_makeOne 38 = .ok (.iload_n 3, 1) := by decide +kernel
theorem dX1_makeOne_39 : decode cX1_makeOne 39 = .ok (.aload_n 0, 1) := by decide +kernel
theorem dX1_makeOne_40 : decode cX1_makeOne 40 = .ok (.getfield 37, 3) := by decide +kernel
theorem dX1_makeOne_43 : decode cX1_makeOne 43 = .ok (.if_icmp .ge 123, 3) := by decide +kernel
theorem dX1_makeOne_46 : decode cX1_makeOne 46 = .ok (.aload_n 0, 1) := by decide +kernel
theorem dX1_makeOne_47 : decode cX1_makeOne 47 = .ok (.getfield 31, 3) := by decide +kernel
theorem dX1_makeOne_50 : decode cX1_makeOne 50 = .ok (.iload_n 3, 1) := by decide +kernel
theorem dX1_makeOne_51 : decode cX1_makeOne 51 = .ok (.iaload, 1) := by decide +kernel
theorem dX1_makeOne_52 : decode cX1_makeOne 52 = .ok (.istore 4, 2) := by decide +kernel
theorem dX1_makeOne_54 : decode cX1_makeOne 54 = .ok (.iconst 0, 1) := by decide +kernel
theorem dX1_makeOne_55 : decode cX1_makeOne 55 = .ok (.istore 5, 2) := by decide +kernel
theorem dX1_makeOne_57 : decode cX1_makeOne 57 = .ok (.iload 5, 2) := by decide +kernel
theorem dX1_makeOne_59 : decode cX1_makeOne 59 = .ok (.iconst 3, 1) := by decide +kernel
theorem dX1_makeOne_60 : decode cX1_makeOne 60 = .ok (.if_icmp .ge 100, 3) := by decide +kernel
theorem dX1_makeOne_63 : decode cX1_makeOne 63 = .ok (.iload 5, 2) := by decide +kernel
theorem dX1_makeOne_65 : decode cX1_makeOne 65 = .ok (.ifCond .ne 10, 3) := by decide +kernel
theorem dX1_makeOne_68 : decode cX1_makeOne 68 = .ok (.aload_n 0, 1) := by decide +kernel
theorem dX1_makeOne_69 : decode cX1_makeOne 69 = .ok (.getfield 19, 3) := by decide +kernel
theorem dX1_makeOne_72 : decode cX1_makeOne 72 = .ok (.goto 20, 3) := by decide +kernel
theorem dX1_makeOne_75 : decode cX1_makeOne 75 = .ok (.iload 5, 2) := by decide +kernel
theorem dX1_makeOne_77 : decode cX1_makeOne 77 = .ok (.iconst 1, 1) := by decide +kernel
theorem dX1_makeOne_78 : decode cX1_makeOne 78 = .ok (.if_icmp .ne 10, 3) := by decide +kernel
theorem dX1_makeOne_81 : decode cX1_makeOne 81 = .ok (.aload_n 0, 1) := by decide +kernel
theorem dX1_makeOne_82 : decode cX1_makeOne 82 = .ok (.getfield 22, 3) := by decide +kernel
theorem dX1_makeOne_85 : decode cX1_makeOne 85 = .ok (.goto 7, 3) := by decide +kernel
theorem dX1_makeOne_88 : decode cX1_makeOne 88 = .ok (.aload_n 0, 1) := by decide +kernel
theorem dX1_makeOne_89 : decode cX1_makeOne 89 = .ok (.getfield 25, 3) := by decide +kernel
theorem dX1_makeOne_92 : decode cX1_makeOne 92 = .ok (.astore 6, 2) := by decide +kernel
theorem dX1_makeOne_94 : decode cX1_makeOne 94 = .ok (.aload_n 0, 1) := by decide +kernel
theorem dX1_makeOne_95 : decode cX1_makeOne 95 = .ok (.getfield 7, 3) := by decide +kernel
theorem dX1_makeOne_98 : decode cX1_makeOne 98 = .ok (.iload 4, 2) := by decide +kernel
theorem dX1_makeOne_100 : decode cX1_makeOne 100 = .ok (.iaload, 1) := by decide +kernel
theorem dX1_makeOne_101 : decode cX1_makeOne 101 = .ok (.istore 7, 2) := by decide +kernel
theorem dX1_makeOne_103 : decode cX1_makeOne 103 = .ok (.aload 6, 2) := by decide +kernel
theorem dX1_makeOne_105 : decode cX1_makeOne 105 = .ok (.iload 4, 2) := by decide +kernel
theorem dX1_makeOne_107 : decode cX1_makeOne 107 = .ok (.iaload, 1) := by decide +kernel
theorem dX1_makeOne_108 : decode cX1_makeOne 108 = .ok (.ifCond .lt 28, 3) := by decide +kernel
theorem dX1_makeOne_111 : decode cX1_makeOne 111 = .ok (.aload 6, 2) := by decide +kernel
theorem dX1_makeOne_113 : decode cX1_makeOne 113 = .ok (.iload 7, 2) := by decide +kernel
theorem dX1_makeOne_115 : decode cX1_makeOne 115 = .ok (.iaload, 1) := by decide +kernel
theorem dX1_makeOne_116 : decode cX1_makeOne 116 = .ok (.ifCond .lt 20, 3) := by decide +kernel
theorem dX1_makeOne_119 : decode cX1_makeOne 119 = .ok (.aload_n 0, 1) := by decide +kernel
theorem dX1_makeOne_120 : decode cX1_makeOne 120 = .ok (.aload 6, 2) := by decide +kernel
theorem dX1_makeOne_122 : decode cX1_makeOne 122 = .ok (.iload 7, 2) := by decide +kernel
theorem dX1_makeOne_124 : decode cX1_makeOne 124 = .ok (.iaload, 1) := by decide +kernel
theorem dX1_makeOne_125 : decode cX1_makeOne 125 = .ok (.aload 6, 2) := by decide +kernel
theorem dX1_makeOne_127 : decode cX1_makeOne 127 = .ok (.iload 4, 2) := by decide +kernel
theorem dX1_makeOne_129 : decode cX1_makeOne 129 = .ok (.iaload, 1) := by decide +kernel
theorem dX1_makeOne_130 : decode cX1_makeOne 130 = .ok (.invokevirtual 71, 3) := by decide +kernel
theorem dX1_makeOne_133 : decode cX1_makeOne 133 = .ok (.goto 21, 3) := by decide +kernel
theorem dX1_makeOne_136 : decode cX1_makeOne 136 = .ok (.aload 6, 2) := by decide +kernel
theorem dX1_makeOne_138 : decode cX1_makeOne 138 = .ok (.iload 4, 2) := by decide +kernel
theorem dX1_makeOne_140 : decode cX1_makeOne 140 = .ok (.iaload, 1) := by decide +kernel
theorem dX1_makeOne_141 : decode cX1_makeOne 141 = .ok (.ifCond .lt 13, 3) := by decide +kernel
theorem dX1_makeOne_144 : decode cX1_makeOne 144 = .ok (.aload 6, 2) := by decide +kernel
theorem dX1_makeOne_146 : decode cX1_makeOne 146 = .ok (.iload 7, 2) := by decide +kernel
theorem dX1_makeOne_148 : decode cX1_makeOne 148 = .ok (.aload 6, 2) := by decide +kernel
theorem dX1_makeOne_150 : decode cX1_makeOne 150 = .ok (.iload 4, 2) := by decide +kernel
theorem dX1_makeOne_152 : decode cX1_makeOne 152 = .ok (.iaload, 1) := by decide +kernel
theorem dX1_makeOne_153 : decode cX1_makeOne 153 = .ok (.iastore, 1) := by decide +kernel
theorem dX1_makeOne_154 : decode cX1_makeOne 154 = .ok (.iinc 5 1, 3) := by decide +kernel
theorem dX1_makeOne_157 : decode cX1_makeOne 157 = .ok (.goto (-100), 3) := by decide +kernel
theorem dX1_makeOne_160 : decode cX1_makeOne 160 = .ok (.iinc 3 1, 3) := by decide +kernel
theorem dX1_makeOne_163 : decode cX1_makeOne 163 = .ok (.goto (-133), 3) := by decide +kernel
theorem dX1_makeOne_166 : decode cX1_makeOne 166 = .ok (.return_, 1) := by decide +kernel
theorem dX1_unite_0 : decode cX1_unite 0 = .ok (.aload_n 0, 1) := by decide +kernel
theorem dX1_unite_1 : decode cX1_unite 1 = .ok (.getfield 7, 3) := by decide +kernel
theorem dX1_unite_4 : decode cX1_unite 4 = .ok (.iload_n 1, 1) := by decide +kernel
theorem dX1_unite_5 : decode cX1_unite 5 = .ok (.iaload, 1) := by decide +kernel
theorem dX1_unite_6 : decode cX1_unite 6 = .ok (.istore_n 3, 1) := by decide +kernel
theorem dX1_unite_7 : decode cX1_unite 7 = .ok (.aload_n 0, 1) := by decide +kernel
theorem dX1_unite_8 : decode cX1_unite 8 = .ok (.getfield 7, 3) := by decide +kernel
theorem dX1_unite_11 : decode cX1_unite 11 = .ok (.iload_n 2, 1) := by decide +kernel
theorem dX1_unite_12 : decode cX1_unite 12 = .ok (.iaload, 1) := by decide +kernel
theorem dX1_unite_13 : decode cX1_unite 13 = .ok (.istore 4, 2) := by decide +kernel
theorem dX1_unite_15 : decode cX1_unite 15 = .ok (.iload_n 3, 1) := by decide +kernel
theorem dX1_unite_16 : decode cX1_unite 16 = .ok (.iload 4, 2) := by decide +kernel
theorem dX1_unite_18 : decode cX1_unite 18 = .ok (.if_icmp .eq 15, 3) := by decide +kernel
theorem dX1_unite_21 : decode cX1_unite 21 = .ok (.aload_n 0, 1) := by decide +kernel
theorem dX1_unite_22 : decode cX1_unite 22 = .ok (.getfield 44, 3) := by decide +kernel
theorem dX1_unite_25 : decode cX1_unite 25 = .ok (.aload_n 0, 1) := by decide +kernel
theorem dX1_unite_26 : decode cX1_unite 26 = .ok (.getfield 31, 3) := by decide +kernel
theorem dX1_unite_29 : decode cX1_unite 29 = .ok (.arraylength, 1) := by decide +kernel
theorem dX1_unite_30 : decode cX1_unite 30 = .ok (.if_icmp .lt 4, 3) := by decide +kernel
theorem dX1_unite_33 : decode cX1_unite 33 = .ok (.return_, 1) := by decide +kernel
theorem dX1_unite_34 : decode cX1_unite 34 = .ok (.aload_n 0, 1) := by decide +kernel
theorem dX1_unite_35 : decode cX1_unite 35 = .ok (.getfield 16, 3) := by decide +kernel
theorem dX1_unite_38 : decode cX1_unite 38 = .ok (.iload_n 3, 1) := by decide +kernel
theorem dX1_unite_39 : decode cX1_unite 39 = .ok (.iaload, 1) := by decide +kernel
theorem dX1_unite_40 : decode cX1_unite 40 = .ok (.aload_n 0, 1) := by decide +kernel
theorem dX1_unite_41 : decode cX1_unite 41 = .ok (.getfield 16, 3) := by decide +kernel
theorem dX1_unite_44 : decode cX1_unite 44 = .ok (.iload 4, 2) := by decide +kernel
theorem dX1_unite_46 : decode cX1_unite 46 = .ok (.iaload, 1) := by decide +kernel
theorem dX1_unite_47 : decode cX1_unite 47 = .ok (.if_icmp .ge 18, 3) := by decide +kernel
theorem dX1_unite_50 : decode cX1_unite 50 = .ok (.aload_n 0, 1) := by decide +kernel
theorem dX1_unite_51 : decode cX1_unite 51 = .ok (.getfield 7, 3) := by decide +kernel
theorem dX1_unite_54 : decode cX1_unite 54 = .ok (.iload_n 2, 1) := by decide +kernel
theorem dX1_unite_55 : decode cX1_unite 55 = .ok (.iaload, 1) := by decide +kernel
theorem dX1_unite_56 : decode cX1_unite 56 = .ok (.istore_n 3, 1) := by decide +kernel
theorem dX1_unite_57 : decode cX1_unite 57 = .ok (.aload_n 0, 1) := by decide +kernel
theorem dX1_unite_58 : decode cX1_unite 58 = .ok (.getfield 7, 3) := by decide +kernel
theorem dX1_unite_61 : decode cX1_unite 61 = .ok (.iload_n 1, 1) := by decide +kernel
theorem dX1_unite_62 : decode cX1_unite 62 = .ok (.iaload, 1) := by decide +kernel
theorem dX1_unite_63 : decode cX1_unite 63 = .ok (.istore 4, 2) := by decide +kernel
theorem dX1_unite_65 : decode cX1_unite 65 = .ok (.iload 4, 2) := by decide +kernel
theorem dX1_unite_67 : decode cX1_unite 67 = .ok (.istore 5, 2) := by decide +kernel
theorem dX1_unite_69 : decode cX1_unite 69 = .ok (.iconst 0, 1) := by decide +kernel
theorem dX1_unite_70 : decode cX1_unite 70 = .ok (.istore 6, 2) := by decide +kernel
theorem dX1_unite_72 : decode cX1_unite 72 = .ok (.iload 6, 2) := by decide +kernel
theorem dX1_unite_74 : decode cX1_unite 74 = .ok (.aload_n 0, 1) := by decide +kernel
theorem dX1_unite_75 : decode cX1_unite 75 = .ok (.getfield 16, 3) := by decide +kernel
theorem dX1_unite_78 : decode cX1_unite 78 = .ok (.iload 4, 2) := by decide +kernel
theorem dX1_unite_80 : decode cX1_unite 80 = .ok (.iaload, 1) := by decide +kernel
theorem dX1_unite_81 : decode cX1_unite 81 = .ok (.if_icmp .ge 26, 3) := by decide +kernel
theorem dX1_unite_84 : decode cX1_unite 84 = .ok (.aload_n 0, 1) := by decide +kernel
theorem dX1_unite_85 : decode cX1_unite 85 = .ok (.getfield 7, 3) := by decide +kernel
theorem dX1_unite_88 : decode cX1_unite 88 = .ok (.iload 5, 2) := by decide +kernel
theorem dX1_unite_90 : decode cX1_unite 90 = .ok (.iload_n 3, 1) := by decide +kernel
theorem dX1_unite_91 : decode cX1_unite 91 = .ok (.iastore, 1) := by decide +kernel
theorem dX1_unite_92 : decode cX1_unite 92 = .ok (.aload_n 0, 1) := by decide +kernel
theorem dX1_unite_93 : decode cX1_unite 93 = .ok (.getfield 13, 3) := by decide +kernel
theorem dX1_unite_96 : decode cX1_unite 96 = .ok (.iload 5, 2) := by decide +kernel
theorem dX1_unite_98 : decode cX1_unite 98 = .ok (.iaload, 1) := by decide +kernel
theorem dX1_unite_99 : decode cX1_unite 99 = .ok (.istore 5, 2) := by decide +kernel
theorem dX1_unite_101 : decode cX1_unite 101 = .ok (.iinc 6 1, 3) := by decide +kernel
theorem dX1_unite_104 : decode cX1_unite 104 = .ok (.goto (-32), 3) := by decide +kernel
theorem dX1_unite_107 : decode cX1_unite 107 = .ok (.aload_n 0, 1) := by decide +kernel
theorem dX1_unite_108 : decode cX1_unite 108 = .ok (.getfield 13, 3) := by decide +kernel
theorem dX1_unite_111 : decode cX1_unite 111 = .ok (.iload_n 3, 1) := by decide +kernel
theorem dX1_unite_112 : decode cX1_unite 112 = .ok (.iaload, 1) := by decide +kernel
theorem dX1_unite_113 : decode cX1_unite 113 = .ok (.istore 6, 2) := by decide +kernel
theorem dX1_unite_115 : decode cX1_unite 115 = .ok (.aload_n 0, 1) := by decide +kernel
theorem dX1_unite_116 : decode cX1_unite 116 = .ok (.getfield 13, 3) := by decide +kernel
theorem dX1_unite_119 : decode cX1_unite 119 = .ok (.iload_n 3, 1) := by decide +kernel
theorem dX1_unite_120 : decode cX1_unite 120 = .ok (.aload_n 0, 1) := by decide +kernel
theorem dX1_unite_121 : decode cX1_unite 121 = .ok (.getfield 13, 3) := by decide +kernel
theorem dX1_unite_124 : decode cX1_unite 124 = .ok (.iload 4, 2) := by decide +kernel
theorem dX1_unite_126 : decode cX1_unite 126 = .ok (.iaload, 1) := by decide +kernel
theorem dX1_unite_127 : decode cX1_unite 127 = .ok (.iastore, 1) := by decide +kernel
theorem dX1_unite_128 : decode cX1_unite 128 = .ok (.aload_n 0, 1) := by decide +kernel
theorem dX1_unite_129 : decode cX1_unite 129 = .ok (.getfield 13, 3) := by decide +kernel
theorem dX1_unite_132 : decode cX1_unite 132 = .ok (.iload 4, 2) := by decide +kernel
theorem dX1_unite_134 : decode cX1_unite 134 = .ok (.iload 6, 2) := by decide +kernel
theorem dX1_unite_136 : decode cX1_unite 136 = .ok (.iastore, 1) := by decide +kernel
theorem dX1_unite_137 : decode cX1_unite 137 = .ok (.aload_n 0, 1) := by decide +kernel
theorem dX1_unite_138 : decode cX1_unite 138 = .ok (.getfield 16, 3) := by decide +kernel
theorem dX1_unite_141 : decode cX1_unite 141 = .ok (.iload_n 3, 1) := by decide +kernel
theorem dX1_unite_142 : decode cX1_unite 142 = .ok (.dup2, 1) := by decide +kernel
theorem dX1_unite_143 : decode cX1_unite 143 = .ok (.iaload, 1) := by decide +kernel
theorem dX1_unite_144 : decode cX1_unite 144 = .ok (.aload_n 0, 1) := by decide +kernel
theorem dX1_unite_145 : decode cX1_unite 145 = .ok (.getfield 16, 3) := by decide +kernel
theorem dX1_unite_148 : decode cX1_unite 148 = .ok (.iload 4, 2) := by decide +kernel
theorem dX1_unite_150 : decode cX1_unite 150 = .ok (.iaload, 1) := by decide +kernel
theorem dX1_unite_151 : decode cX1_unite 151 = .ok (.iadd, 1) := by decide +kernel
theorem dX1_unite_152 : decode cX1_unite 152 = .ok (.iastore, 1) := by decide +kernel
theorem dX1_unite_153 : decode cX1_unite 153 = .ok (.aload_n 0, 1) := by decide +kernel
theorem dX1_unite_154 : decode cX1_unite 154 = .ok (.getfield 31, 3) := by decide +kernel
theorem dX1_unite_157 : decode cX1_unite 157 = .ok (.aload_n 0, 1) := by decide +kernel
theorem dX1_unite_158 : decode cX1_unite 158 = .ok (.getfield 44, 3) := by decide +kernel
theorem dX1_unite_161 : decode cX1_unite 161 = .ok (.iload 4, 2) := by decide +kernel
theorem dX1_unite_163 : decode cX1_unite 163 = .ok (.iastore, 1) := by decide +kernel
theorem dX1_unite_164 : decode cX1_unite 164 = .ok (.aload_n 0, 1) := by decide +kernel
theorem dX1_unite_165 : decode cX1_unite 165 = .ok (.dup, 1) := by decide +kernel
theorem dX1_unite_166 : decode cX1_unite 166 = .ok (.getfield 44, 3) := by decide +kernel
theorem dX1_unite_169 : decode cX1_unite 169 = .ok (.iconst 1, 1) := by decide +kernel
theorem dX1_unite_170 : decode cX1_unite 170 = .ok (.iadd, 1) := by decide +kernel
theorem dX1_unite_171 : decode cX1_unite 171 = .ok (.putfield 44, 3) := by decide +kernel
theorem dX1_unite_174 : decode cX1_unite 174 = .ok (.aload_n 0, 1) := by decide +kernel
theorem dX1_unite_175 : decode cX1_unite 175 = .ok (.getfield 34, 3) := by decide +kernel
theorem dX1_unite_178 : decode cX1_unite 178 = .ok (.aload_n 0, 1) := by decide +kernel
theorem dX1_unite_179 : decode cX1_unite 179 = .ok (.getfield 28, 3) := by decide +kernel
theorem dX1_unite_182 : decode cX1_unite 182 = .ok (.iload 4, 2) := by decide +kernel
theorem dX1_unite_184 : decode cX1_unite 184 = .ok (.iaload, 1) := by decide +kernel
theorem dX1_unite_185 : decode cX1_unite 185 = .ok (.iaload, 1) := by decide +kernel
theorem dX1_unite_186 : decode cX1_unite 186 = .ok (.istore 7, 2) := by decide +kernel
theorem dX1_unite_188 : decode cX1_unite 188 = .ok (.aload_n 0, 1) := by decide +kernel
theorem dX1_unite_189 : decode cX1_unite 189 = .ok (.getfield 34, 3) := by decide +kernel
theorem dX1_unite_192 : decode cX1_unite 192 = .ok (.aload_n 0, 1) := by decide +kernel
theorem dX1_unite_193 : decode cX1_unite 193 = .ok (.getfield 28, 3) := by decide +kernel
theorem dX1_unite_196 : decode cX1_unite 196 = .ok (.iload_n 3, 1) := by decide +kernel
theorem dX1_unite_197 : decode cX1_unite 197 = .ok (.iaload, 1) := by decide +kernel
theorem dX1_unite_198 : decode cX1_unite 198 = .ok (.iaload, 1) := by decide +kernel
theorem dX1_unite_199 : decode cX1_unite 199 = .ok (.istore 8, 2) := by decide +kernel
theorem dX1_unite_201 : decode cX1_unite 201 = .ok (.iconst 0, 1) := by decide +kernel
theorem dX1_unite_202 : decode cX1_unite 202 = .ok (.istore 9, 2) := by decide +kernel
theorem dX1_unite_204 : decode cX1_unite 204 = .ok (.iload 9, 2) := by decide +kernel
theorem dX1_unite_206 : decode cX1_unite 206 = .ok (.aload_n 0, 1) := by decide +kernel
theorem dX1_unite_207 : decode cX1_unite 207 = .ok (.getfield 41, 3) := by decide +kernel
theorem dX1_unite_210 : decode cX1_unite 210 = .ok (.if_icmp .ge 37, 3) := by decide +kernel
theorem dX1_unite_213 : decode cX1_unite 213 = .ok (.iload 7, 2) := by decide +kernel
theorem dX1_unite_215 : decode cX1_unite 215 = .ok (.iload 8, 2) := by decide +kernel
theorem dX1_unite_217 : decode cX1_unite 217 = .ok (.if_icmp .eq 30, 3) := by decide +kernel
theorem dX1_unite_220 : decode cX1_unite 220 = .ok (.aload_n 0, 1) := by decide +kernel
theorem dX1_unite_221 : decode cX1_unite 221 = .ok (.getfield 34, 3) := by decide +kernel
theorem dX1_unite_224 : decode cX1_unite 224 = .ok (.iload 9, 2) := by decide +kernel
theorem dX1_unite_226 : decode cX1_unite 226 = .ok (.iaload, 1) := by decide +kernel
theorem dX1_unite_227 : decode cX1_unite 227 = .ok (.iload 7, 2) := by decide +kernel
theorem dX1_unite_229 : decode cX1_unite 229 = .ok (.if_icmp .ne 12, 3) := by decide +kernel
theorem dX1_unite_232 : decode cX1_unite 232 = .ok (.aload_n 0, 1) := by decide +kernel
theorem dX1_unite_233 : decode cX1_unite 233 = .ok (.getfield 34, 3) := by decide +kernel
theorem dX1_unite_236 : decode cX1_unite 236 = .ok (.iload 9, 2) := by decide +kernel
theorem dX1_unite_238 : decode cX1_unite 238 = .ok (.iload 8, 2) := by decide +kernel
theorem dX1_unite_240 : decode cX1_unite 240 = .ok (.iastore, 1) := by decide +kernel
theorem dX1_unite_241 : decode cX1_unite 241 = .ok (.iinc 9 1, 3) := by decide +kernel
theorem dX1_unite_244 : decode cX1_unite 244 = .ok (.goto (-40), 3) := by decide +kernel
theorem dX1_unite_247 : decode cX1_unite 247 = .ok (.return_, 1) := by decide +kernel
theorem dX1_areOne_0 : decode cX1_areOne 0 = .ok (.iload_n 1, 1) := by decide +kernel
theorem dX1_areOne_1 : decode cX1_areOne 1 = .ok (.ifCond .lt 42, 3) := by decide +kernel
theorem dX1_areOne_4 : decode cX1_areOne 4 = .ok (.iload_n 2, 1) := by decide +kernel
theorem dX1_areOne_5 : decode cX1_areOne 5 = .ok (.ifCond .lt 38, 3) := by decide +kernel
theorem dX1_areOne_8 : decode cX1_areOne 8 = .ok (.iload_n 1, 1) := by decide +kernel
theorem dX1_areOne_9 : decode cX1_areOne 9 = .ok (.aload_n 0, 1) := by decide +kernel
theorem dX1_areOne_10 : decode cX1_areOne 10 = .ok (.getfield 37, 3) := by decide +kernel
theorem dX1_areOne_13 : decode cX1_areOne 13 = .ok (.if_icmp .ge 30, 3) := by decide +kernel
theorem dX1_areOne_16 : decode cX1_areOne 16 = .ok (.iload_n 2, 1) := by decide +kernel
theorem dX1_areOne_17 : decode cX1_areOne 17 = .ok (.aload_n 0, 1) := by decide +kernel
theorem dX1_areOne_18 : decode cX1_areOne 18 = .ok (.getfield 37, 3) := by decide +kernel
theorem dX1_areOne_21 : decode cX1_areOne 21 = .ok (.if_icmp .ge 22, 3) := by decide +kernel
theorem dX1_areOne_24 : decode cX1_areOne 24 = .ok (.aload_n 0, 1) := by decide +kernel
theorem dX1_areOne_25 : decode cX1_areOne 25 = .ok (.getfield 7, 3) := by decide +kernel
theorem dX1_areOne_28 : decode cX1_areOne 28 = .ok (.iload_n 1, 1) := by decide +kernel
theorem dX1_areOne_29 : decode cX1_areOne 29 = .ok (.iaload, 1) := by decide +kernel
theorem dX1_areOne_30 : decode cX1_areOne 30 = .ok (.aload_n 0, 1) := by decide +kernel
theorem dX1_areOne_31 : decode cX1_areOne 31 = .ok (.getfield 7, 3) := by decide +kernel
theorem dX1_areOne_34 : decode cX1_areOne 34 = .ok (.iload_n 2, 1) := by decide +kernel
theorem dX1_areOne_35 : decode cX1_areOne 35 = .ok (.iaload, 1) := by decide +kernel
theorem dX1_areOne_36 : decode cX1_areOne 36 = .ok (.if_icmp .ne 7, 3) := by decide +kernel
theorem dX1_areOne_39 : decode cX1_areOne 39 = .ok (.iconst 1, 1) := by decide +kernel
theorem dX1_areOne_40 : decode cX1_areOne 40 = .ok (.goto 4, 3) := by decide +kernel
theorem dX1_areOne_43 : decode cX1_areOne 43 = .ok (.iconst 0, 1) := by decide +kernel
theorem dX1_areOne_44 : decode cX1_areOne 44 = .ok (.ireturn, 1) := by decide +kernel
theorem dX1_areAtOnePlace_0 : decode cX1_areAtOnePlace 0 = .ok (.iload_n 1, 1) := by decide +kernel
theorem dX1_areAtOnePlace_1 : decode cX1_areAtOnePlace 1 = .ok (.ifCond .lt 52, 3) := by decide +kernel
theorem dX1_areAtOnePlace_4 : decode cX1_areAtOnePlace 4 = .ok (.iload_n 2, 1) := by decide +kernel
theorem dX1_areAtOnePlace_5 : decode cX1_areAtOnePlace 5 = .ok (.ifCond .lt 48, 3) := by decide +kernel
theorem dX1_areAtOnePlace_8 : decode cX1_areAtOnePlace 8 = .ok (.iload_n 1, 1) := by decide +kernel
theorem dX1_areAtOnePlace_9 : decode cX1_areAtOnePlace 9 = .ok (.aload_n 0, 1) := by decide +kernel
theorem dX1_areAtOnePlace_10 : decode cX1_areAtOnePlace 10 = .ok (.getfield 37, 3) := by decide +kernel
theorem dX1_areAtOnePlace_13 : decode cX1_areAtOnePlace 13 = .ok (.if_icmp .ge 40, 3) := by decide +kernel
theorem dX1_areAtOnePlace_16 : decode cX1_areAtOnePlace 16 = .ok (.iload_n 2, 1) := by decide +kernel
theorem dX1_areAtOnePlace_17 : decode cX1_areAtOnePlace 17 = .ok (.aload_n 0, 1) := by decide +kernel
theorem dX1_areAtOnePlace_18 : decode cX1_areAtOnePlace 18 = .ok (.getfield 37, 3) := by decide +kernel
theorem dX1_areAtOnePlace_21 : decode cX1_areAtOnePlace 21 = .ok (.if_icmp .ge 32, 3) := by decide +kernel
theorem dX1_areAtOnePlace_24 : decode cX1_areAtOnePlace 24 = .ok (.aload_n 0, 1) := by decide +kernel
theorem dX1_areAtOnePlace_25 : decode cX1_areAtOnePlace 25 = .ok (.getfield 34, 3) := by decide +kernel
theorem dX1_areAtOnePlace_28 : decode cX1_areAtOnePlace 28 = .ok (.aload_n 0, 1) := by decide +kernel
theorem dX1_areAtOnePlace_29 : decode cX1_areAtOnePlace 29 = .ok (.getfield 28, 3) := by decide +kernel
theorem dX1_areAtOnePlace_32 : decode cX1_areAtOnePlace 32 = .ok (.iload_n 1, 1) := by decide +kernel
theorem dX1_areAtOnePlace_33 : decode cX1_areAtOnePlace 33 = .ok (.iaload, 1) := by decide +kernel
theorem dX1_areAtOnePlace_34 : decode cX1_areAtOnePlace 34 = .ok (.iaload, 1) := by decide +kernel
theorem dX1_areAtOnePlace_35 : decode cX1_areAtOnePlace 35 = .ok (.aload_n 0, 1) := by decide +kernel
theorem dX1_areAtOnePlace_36 : decode cX1_areAtOnePlace 36 = .ok (.getfield 34, 3) := by decide +kernel
theorem dX1_areAtOnePlace_39 : decode cX1_areAtOnePlace 39 = .ok (.aload_n 0, 1) := by decide +kernel
theorem dX1_areAtOnePlace_40 : decode cX1_areAtOnePlace 40 = .ok (.getfield 28, 3) := by decide +kernel
theorem dX1_areAtOnePlace_43 : decode cX1_areAtOnePlace 43 = .ok (.iload_n 2, 1) := by decide +kernel
theorem dX1_areAtOnePlace_44 : decode cX1_areAtOnePlace 44 = .ok (.iaload, 1) := by decide +kernel
theorem dX1_areAtOnePlace_45 : decode cX1_areAtOnePlace 45 = .ok (.iaload, 1) := by decide +kernel
theorem dX1_areAtOnePlace_46 : decode cX1_areAtOnePlace 46 = .ok (.if_icmp .ne 7, 3) := by decide +kernel
theorem dX1_areAtOnePlace_49 : decode cX1_areAtOnePlace 49 = .ok (.iconst 1, 1) := by decide +kernel
theorem dX1_areAtOnePlace_50 : decode cX1_areAtOnePlace 50 = .ok (.goto 4, 3) := by decide +kernel
theorem dX1_areAtOnePlace_53 : decode cX1_areAtOnePlace 53 = .ok (.iconst 0, 1) := by decide +kernel
theorem dX1_areAtOnePlace_54 : decode cX1_areAtOnePlace 54 = .ok (.ireturn, 1) := by decide +kernel
theorem dX1_hasLaneOfOneEnd_0 : decode cX1_hasLaneOfOneEnd 0 = .ok (.iconst 0, 1) := by decide +kernel
theorem dX1_hasLaneOfOneEnd_1 : decode cX1_hasLaneOfOneEnd 1 = .ok (.istore_n 1, 1) := by decide +kernel
theorem dX1_hasLaneOfOneEnd_2 : decode cX1_hasLaneOfOneEnd 2 = .ok (.iload_n 1, 1) := by decide +kernel
theorem dX1_hasLaneOfOneEnd_3 : decode cX1_hasLaneOfOneEnd 3 = .ok (.aload_n 0, 1) := by decide +kernel
theorem dX1_hasLaneOfOneEnd_4 : decode cX1_hasLaneOfOneEnd 4 = .ok (.getfield 37, 3) := by decide +kernel
theorem dX1_hasLaneOfOneEnd_7 : decode cX1_hasLaneOfOneEnd 7 = .ok (.if_icmp .ge 45, 3) := by decide +kernel
theorem dX1_hasLaneOfOneEnd_10 : decode cX1_hasLaneOfOneEnd 10 = .ok (.aload_n 0, 1) := by decide +kernel
theorem dX1_hasLaneOfOneEnd_11 : decode cX1_hasLaneOfOneEnd 11 = .ok (.getfield 7, 3) := by decide +kernel
theorem dX1_hasLaneOfOneEnd_14 : decode cX1_hasLaneOfOneEnd 14 = .ok (.iload_n 1, 1) := by decide +kernel
theorem dX1_hasLaneOfOneEnd_15 : decode cX1_hasLaneOfOneEnd 15 = .ok (.iaload, 1) := by decide +kernel
theorem dX1_hasLaneOfOneEnd_16 : decode cX1_hasLaneOfOneEnd 16 = .ok (.iload_n 1, 1) := by decide +kernel
theorem dX1_hasLaneOfOneEnd_17 : decode cX1_hasLaneOfOneEnd 17 = .ok (.if_icmp .ne 29, 3) := by decide +kernel
theorem dX1_hasLaneOfOneEnd_20 : decode cX1_hasLaneOfOneEnd 20 = .ok (.aload_n 0, 1) := by decide +kernel
theorem dX1_hasLaneOfOneEnd_21 : decode cX1_hasLaneOfOneEnd 21 = .ok (.getfield 25, 3) := by decide +kernel
theorem dX1_hasLaneOfOneEnd_24 : decode cX1_hasLaneOfOneEnd 24 = .ok (.iload_n 1, 1) := by decide +kernel
theorem dX1_hasLaneOfOneEnd_25 : decode cX1_hasLaneOfOneEnd 25 = .ok (.iaload, 1) := by decide +kernel
theorem dX1_hasLaneOfOneEnd_26 : decode cX1_hasLaneOfOneEnd 26 = .ok (.ifCond .lt 20, 3) := by decide +kernel
theorem dX1_hasLaneOfOneEnd_29 : decode cX1_hasLaneOfOneEnd 29 = .ok (.aload_n 0, 1) := by decide +kernel
theorem dX1_hasLaneOfOneEnd_30 : decode cX1_hasLaneOfOneEnd 30 = .ok (.getfield 7, 3) := by decide +kernel
theorem dX1_hasLaneOfOneEnd_33 : decode cX1_hasLaneOfOneEnd 33 = .ok (.aload_n 0, 1) := by decide +kernel
theorem dX1_hasLaneOfOneEnd_34 : decode cX1_hasLaneOfOneEnd 34 = .ok (.getfield 25, 3) := by decide +kernel
theorem dX1_hasLaneOfOneEnd_37 : decode cX1_hasLaneOfOneEnd 37 = .ok (.iload_n 1, 1) := by decide +kernel
theorem dX1_hasLaneOfOneEnd_38 : decode cX1_hasLaneOfOneEnd 38 = .ok (.iaload, 1) := by decide +kernel
theorem dX1_hasLaneOfOneEnd_39 : decode cX1_hasLaneOfOneEnd 39 = .ok (.iaload, 1) := by decide +kernel
theorem dX1_hasLaneOfOneEnd_40 : decode cX1_hasLaneOfOneEnd 40 = .ok (.iload_n 1, 1) := by decide +kernel
theorem dX1_hasLaneOfOneEnd_41 : decode cX1_hasLaneOfOneEnd 41 = .ok (.if_icmp .ne 5, 3) := by decide +kernel
theorem dX1_hasLaneOfOneEnd_44 : decode cX1_hasLaneOfOneEnd 44 = .ok (.iconst 1, 1) := by decide +kernel
theorem dX1_hasLaneOfOneEnd_45 : decode cX1_hasLaneOfOneEnd 45 = .ok (.ireturn, 1) := by decide +kernel
theorem dX1_hasLaneOfOneEnd_46 : decode cX1_hasLaneOfOneEnd 46 = .ok (.iinc 1 1, 3) := by decide +kernel
theorem dX1_hasLaneOfOneEnd_49 : decode cX1_hasLaneOfOneEnd 49 = .ok (.goto (-47), 3) := by decide +kernel
theorem dX1_hasLaneOfOneEnd_52 : decode cX1_hasLaneOfOneEnd 52 = .ok (.iconst 0, 1) := by decide +kernel
theorem dX1_hasLaneOfOneEnd_53 : decode cX1_hasLaneOfOneEnd 53 = .ok (.ireturn, 1) := by decide +kernel
theorem dX1_goesRoundIn_0 : decode cX1_goesRoundIn 0 = .ok (.aload_n 0, 1) := by decide +kernel
theorem dX1_goesRoundIn_1 : decode cX1_goesRoundIn 1 = .ok (.iload_n 1, 1) := by decide +kernel
theorem dX1_goesRoundIn_2 : decode cX1_goesRoundIn 2 = .ok (.invokevirtual 59, 3) := by decide +kernel
theorem dX1_goesRoundIn_5 : decode cX1_goesRoundIn 5 = .ok (.ifCond .ne 5, 3) := by decide +kernel
theorem dX1_goesRoundIn_8 : decode cX1_goesRoundIn 8 = .ok (.iconst 0, 1) := by decide +kernel
theorem dX1_goesRoundIn_9 : decode cX1_goesRoundIn 9 = .ok (.ireturn, 1) := by decide +kernel
theorem dX1_goesRoundIn_10 : decode cX1_goesRoundIn 10 = .ok (.aload_n 0, 1) := by decide +kernel
theorem dX1_goesRoundIn_11 : decode cX1_goesRoundIn 11 = .ok (.getfield 7, 3) := by decide +kernel
theorem dX1_goesRoundIn_14 : decode cX1_goesRoundIn 14 = .ok (.iload_n 1, 1) := by decide +kernel
theorem dX1_goesRoundIn_15 : decode cX1_goesRoundIn 15 = .ok (.iaload, 1) := by decide +kernel
theorem dX1_goesRoundIn_16 : decode cX1_goesRoundIn 16 = .ok (.istore_n 3, 1) := by decide +kernel
theorem dX1_goesRoundIn_17 : decode cX1_goesRoundIn 17 = .ok (.iconst 1, 1) := by decide +kernel
theorem dX1_goesRoundIn_18 : decode cX1_goesRoundIn 18 = .ok (.istore 4, 2) := by decide +kernel
theorem dX1_goesRoundIn_20 : decode cX1_goesRoundIn 20 = .ok (.iload 4, 2) := by decide +kernel
theorem dX1_goesRoundIn_22 : decode cX1_goesRoundIn 22 = .ok (.iload_n 2, 1) := by decide +kernel
theorem dX1_goesRoundIn_23 : decode cX1_goesRoundIn 23 = .ok (.if_icmp .gt 54, 3) := by decide +kernel
theorem dX1_goesRoundIn_26 : decode cX1_goesRoundIn 26 = .ok (.aload_n 0, 1) := by decide +kernel
theorem dX1_goesRoundIn_27 : decode cX1_goesRoundIn 27 = .ok (.getfield 19, 3) := by decide +kernel
theorem dX1_goesRoundIn_30 : decode cX1_goesRoundIn 30 = .ok (.iload_n 3, 1) := by decide +kernel
theorem dX1_goesRoundIn_31 : decode cX1_goesRoundIn 31 = .ok (.iaload, 1) := by decide +kernel
theorem dX1_goesRoundIn_32 : decode cX1_goesRoundIn 32 = .ok (.ifCond .ge 5, 3) := by decide +kernel
theorem dX1_goesRoundIn_35 : decode cX1_goesRoundIn 35 = .ok (.iconst 0, 1) := by decide +kernel
theorem dX1_goesRoundIn_36 : decode cX1_goesRoundIn 36 = .ok (.ireturn, 1) := by decide +kernel
theorem dX1_goesRoundIn_37 : decode cX1_goesRoundIn 37 = .ok (.aload_n 0, 1) := by decide +kernel
theorem dX1_goesRoundIn_38 : decode cX1_goesRoundIn 38 = .ok (.getfield 7, 3) := by decide +kernel
theorem dX1_goesRoundIn_41 : decode cX1_goesRoundIn 41 = .ok (.aload_n 0, 1) := by decide +kernel
theorem dX1_goesRoundIn_42 : decode cX1_goesRoundIn 42 = .ok (.getfield 19, 3) := by decide +kernel
theorem dX1_goesRoundIn_45 : decode cX1_goesRoundIn 45 = .ok (.iload_n 3, 1) := by decide +kernel
theorem dX1_goesRoundIn_46 : decode cX1_goesRoundIn 46 = .ok (.iaload, 1) := by decide +kernel
theorem dX1_goesRoundIn_47 : decode cX1_goesRoundIn 47 = .ok (.iaload, 1) := by decide +kernel
theorem dX1_goesRoundIn_48 : decode cX1_goesRoundIn 48 = .ok (.istore_n 3, 1) := by decide +kernel
theorem dX1_goesRoundIn_49 : decode cX1_goesRoundIn 49 = .ok (.iload_n 3, 1) := by decide +kernel
theorem dX1_goesRoundIn_50 : decode cX1_goesRoundIn 50 = .ok (.aload_n 0, 1) := by decide +kernel
theorem dX1_goesRoundIn_51 : decode cX1_goesRoundIn 51 = .ok (.getfield 7, 3) := by decide +kernel
theorem dX1_goesRoundIn_54 : decode cX1_goesRoundIn 54 = .ok (.iload_n 1, 1) := by decide +kernel
theorem dX1_goesRoundIn_55 : decode cX1_goesRoundIn 55 = .ok (.iaload, 1) := by decide +kernel
theorem dX1_goesRoundIn_56 : decode cX1_goesRoundIn 56 = .ok (.if_icmp .ne 15, 3) := by decide +kernel
theorem dX1_goesRoundIn_59 : decode cX1_goesRoundIn 59 = .ok (.iload 4, 2) := by decide +kernel
theorem dX1_goesRoundIn_61 : decode cX1_goesRoundIn 61 = .ok (.iload_n 2, 1) := by decide +kernel
theorem dX1_goesRoundIn_62 : decode cX1_goesRoundIn 62 = .ok (.if_icmp .ne 7, 3) := by decide +kernel
theorem dX1_goesRoundIn_65 : decode cX1_goesRoundIn 65 = .ok (.iconst 1, 1) := by decide +kernel
theorem dX1_goesRoundIn_66 : decode cX1_goesRoundIn 66 = .ok (.goto 4, 3) := by decide +kernel
theorem dX1_goesRoundIn_69 : decode cX1_goesRoundIn 69 = .ok (.iconst 0, 1) := by decide +kernel
theorem dX1_goesRoundIn_70 : decode cX1_goesRoundIn 70 = .ok (.ireturn, 1) := by decide +kernel
theorem dX1_goesRoundIn_71 : decode cX1_goesRoundIn 71 = .ok (.iinc 4 1, 3) := by decide +kernel
theorem dX1_goesRoundIn_74 : decode cX1_goesRoundIn 74 = .ok (.goto (-54), 3) := by decide +kernel
theorem dX1_goesRoundIn_77 : decode cX1_goesRoundIn 77 = .ok (.iconst 0, 1) := by decide +kernel
theorem dX1_goesRoundIn_78 : decode cX1_goesRoundIn 78 = .ok (.ireturn, 1) := by decide +kernel
theorem dX1_placesLeft_0 : decode cX1_placesLeft 0 = .ok (.iconst 0, 1) := by decide +kernel
theorem dX1_placesLeft_1 : decode cX1_placesLeft 1 = .ok (.istore_n 1, 1) := by decide +kernel
theorem dX1_placesLeft_2 : decode cX1_placesLeft 2 = .ok (.iconst 0, 1) := by decide +kernel
theorem dX1_placesLeft_3 : decode cX1_placesLeft 3 = .ok (.istore_n 2, 1) := by decide +kernel
theorem dX1_placesLeft_4 : decode cX1_placesLeft 4 = .ok (.iload_n 2, 1) := by decide +kernel
theorem dX1_placesLeft_5 : decode cX1_placesLeft 5 = .ok (.aload_n 0, 1) := by decide +kernel
theorem dX1_placesLeft_6 : decode cX1_placesLeft 6 = .ok (.getfield 41, 3) := by decide +kernel
theorem dX1_placesLeft_9 : decode cX1_placesLeft 9 = .ok (.if_icmp .ge 22, 3) := by decide +kernel
theorem dX1_placesLeft_12 : decode cX1_placesLeft 12 = .ok (.aload_n 0, 1) := by decide +kernel
theorem dX1_placesLeft_13 : decode cX1_placesLeft 13 = .ok (.getfield 34, 3) := by decide +kernel
theorem dX1_placesLeft_16 : decode cX1_placesLeft 16 = .ok (.iload_n 2, 1) := by decide +kernel
theorem dX1_placesLeft_17 : decode cX1_placesLeft 17 = .ok (.iaload, 1) := by decide +kernel
theorem dX1_placesLeft_18 : decode cX1_placesLeft 18 = .ok (.iload_n 2, 1) := by decide +kernel
theorem dX1_placesLeft_19 : decode cX1_placesLeft 19 = .ok (.if_icmp .ne 6, 3) := by decide +kernel
theorem dX1_placesLeft_22 : decode cX1_placesLeft 22 = .ok (.iinc 1 1, 3) := by decide +kernel
theorem dX1_placesLeft_25 : decode cX1_placesLeft 25 = .ok (.iinc 2 1, 3) := by decide +kernel
theorem dX1_placesLeft_28 : decode cX1_placesLeft 28 = .ok (.goto (-24), 3) := by decide +kernel
theorem dX1_placesLeft_31 : decode cX1_placesLeft 31 = .ok (.iload_n 1, 1) := by decide +kernel
theorem dX1_placesLeft_32 : decode cX1_placesLeft 32 = .ok (.ireturn, 1) := by decide +kernel
theorem dX2_init_0 : decode cX2_init 0 = .ok (.aload_n 0, 1) := by decide +kernel
theorem dX2_init_1 : decode cX2_init 1 = .ok (.invokespecial 3, 3) := by decide +kernel
theorem dX2_init_4 : decode cX2_init 4 = .ok (.aload_n 0, 1) := by decide +kernel
theorem dX2_init_5 : decode cX2_init 5 = .ok (.new 9, 3) := by decide +kernel
theorem dX2_init_8 : decode cX2_init 8 = .ok (.dup, 1) := by decide +kernel
theorem dX2_init_9 : decode cX2_init 9 = .ok (.sipush 200, 3) := by decide +kernel
theorem dX2_init_12 : decode cX2_init 12 = .ok (.bipush 20, 2) := by decide +kernel
theorem dX2_init_14 : decode cX2_init 14 = .ok (.invokespecial 11, 3) := by decide +kernel
theorem dX2_init_17 : decode cX2_init 17 = .ok (.putfield 14, 3) := by decide +kernel
theorem dX2_init_20 : decode cX2_init 20 = .ok (.aload_n 0, 1) := by decide +kernel
theorem dX2_init_21 : decode cX2_init 21 = .ok (.sipush 400, 3) := by decide +kernel
theorem dX2_init_24 : decode cX2_init 24 = .ok (.newarray .int, 2) := by decide +kernel
theorem dX2_init_26 : decode cX2_init 26 = .ok (.putfield 20, 3) := by decide +kernel
theorem dX2_init_29 : decode cX2_init 29 = .ok (.aload_n 0, 1) := by decide +kernel
theorem dX2_init_30 : decode cX2_init 30 = .ok (.bipush 72, 2) := by decide +kernel
theorem dX2_init_32 : decode cX2_init 32 = .ok (.newarray .int, 2) := by decide +kernel
theorem dX2_init_34 : decode cX2_init 34 = .ok (.putfield 24, 3) := by decide +kernel
theorem dX2_init_37 : decode cX2_init 37 = .ok (.aload_n 0, 1) := by decide +kernel
theorem dX2_init_38 : decode cX2_init 38 = .ok (.bipush 72, 2) := by decide +kernel
theorem dX2_init_40 : decode cX2_init 40 = .ok (.newarray .int, 2) := by decide +kernel
theorem dX2_init_42 : decode cX2_init 42 = .ok (.putfield 27, 3) := by decide +kernel
theorem dX2_init_45 : decode cX2_init 45 = .ok (.aload_n 0, 1) := by decide +kernel
theorem dX2_init_46 : decode cX2_init 46 = .ok (.iconst 4, 1) := by decide +kernel
theorem dX2_init_47 : decode cX2_init 47 = .ok (.newarray .int, 2) := by decide +kernel
theorem dX2_init_49 : decode cX2_init 49 = .ok (.putfield 30, 3) := by decide +kernel
theorem dX2_init_52 : decode cX2_init 52 = .ok (.aload_n 0, 1) := by decide +kernel
theorem dX2_init_53 : decode cX2_init 53 = .ok (.aload_n 1, 1) := by decide +kernel
theorem dX2_init_54 : decode cX2_init 54 = .ok (.putfield 33, 3) := by decide +kernel
theorem dX2_init_57 : decode cX2_init 57 = .ok (.return_, 1) := by decide +kernel
theorem dX2_forgetAnswers_0 : decode cX2_forgetAnswers 0 = .ok (.aload_n 0, 1) := by decide +kernel
theorem dX2_forgetAnswers_1 : decode cX2_forgetAnswers 1 = .ok (.getfield 20, 3) := by decide +kernel
theorem dX2_forgetAnswers_4 : decode cX2_forgetAnswers 4 = .ok (.iconst 0, 1) := by decide +kernel
theorem dX2_forgetAnswers_5 : decode cX2_forgetAnswers 5 = .ok (.invokestatic 37, 3) := by decide +kernel
theorem dX2_forgetAnswers_8 : decode cX2_forgetAnswers 8 = .ok (.aload_n 0, 1) := by decide +kernel
theorem dX2_forgetAnswers_9 : decode cX2_forgetAnswers 9 = .ok (.iconst (-1), 1) := by decide +kernel
theorem dX2_forgetAnswers_10 : decode cX2_forgetAnswers 10 = .ok (.putfield 43, 3) := by decide +kernel
theorem dX2_forgetAnswers_13 : decode cX2_forgetAnswers 13 = .ok (.return_, 1) := by decide +kernel
theorem dX2_canBeOne_0 : decode cX2_canBeOne 0 = .ok (.aload_n 0, 1) := by decide +kernel
theorem dX2_canBeOne_1 : decode cX2_canBeOne 1 = .ok (.getfield 33, 3) := by decide +kernel
theorem dX2_canBeOne_4 : decode cX2_canBeOne 4 = .ok (.iload_n 1, 1) := by decide +kernel
theorem dX2_canBeOne_5 : decode cX2_canBeOne 5 = .ok (.invokevirtual 47, 3) := by decide +kernel
theorem dX2_canBeOne_8 : decode cX2_canBeOne 8 = .ok (.ifCond .eq 14, 3) := by decide +kernel
theorem dX2_canBeOne_11 : decode cX2_canBeOne 11 = .ok (.aload_n 0, 1) := by decide +kernel
theorem dX2_canBeOne_12 : decode cX2_canBeOne 12 = .ok (.getfield 33, 3) := by decide +kernel
theorem dX2_canBeOne_15 : decode cX2_canBeOne 15 = .ok (.iload_n 2, 1) := by decide +kernel
theorem dX2_canBeOne_16 : decode cX2_canBeOne 16 = .ok (.invokevirtual 47, 3) := by decide +kernel
theorem dX2_canBeOne_19 : decode cX2_canBeOne 19 = .ok (.ifCond .ne 5, 3) := by decide +kernel
theorem dX2_canBeOne_22 : decode cX2_canBeOne 22 = .ok (.iconst 0, 1) := by decide +kernel
theorem dX2_canBeOne_23 : decode cX2_canBeOne 23 = .ok (.ireturn, 1) := by decide +kernel
theorem dX2_canBeOne_24 : decode cX2_canBeOne 24 = .ok (.iload_n 1, 1) := by decide +kernel
theorem dX2_canBeOne_25 : decode cX2_canBeOne 25 = .ok (.bipush 20, 2) := by decide +kernel
theorem dX2_canBeOne_27 : decode cX2_canBeOne 27 = .ok (.imul, 1) := by decide +kernel
theorem dX2_canBeOne_28 : decode cX2_canBeOne 28 = .ok (.iload_n 2, 1) := by decide +kernel
theorem dX2_canBeOne_29 : decode cX2_canBeOne 29 = .ok (.iadd, 1) := by decide +kernel
theorem dX2_canBeOne_30 : decode cX2_canBeOne 30 = .ok (.istore_n 3, 1) := by decide +kernel
theorem dX2_canBeOne_31 : decode cX2_canBeOne 31 = .ok (.aload_n 0, 1) := by decide +kernel
theorem dX2_canBeOne_32 : decode cX2_canBeOne 32 = .ok (.getfield 20, 3) := by decide +kernel
theorem dX2_canBeOne_35 : decode cX2_canBeOne 35 = .ok (.iload_n 3, 1) := by decide +kernel
theorem dX2_canBeOne_36 : decode cX2_canBeOne 36 = .ok (.iaload, 1) := by decide +kernel
theorem dX2_canBeOne_37 : decode cX2_canBeOne 37 = .ok (.ifCond .ne 23, 3) := by decide +kernel
theorem dX2_canBeOne_40 : decode cX2_canBeOne 40 = .ok (.aload_n 0, 1) := by decide +kernel
theorem dX2_canBeOne_41 : decode cX2_canBeOne 41 = .ok (.getfield 20, 3) := by decide +kernel
theorem dX2_canBeOne_44 : decode cX2_canBeOne 44 = .ok (.iload_n 3, 1) := by decide +kernel
theorem dX2_canBeOne_45 : decode cX2_canBeOne 45 = .ok (.aload_n 0, 1) := by decide +kernel
theorem dX2_canBeOne_46 : decode cX2_canBeOne 46 = .ok (.iload_n 1, 1) := by decide +kernel
theorem dX2_canBeOne_47 : decode cX2_canBeOne 47 = .ok (.iload_n 2, 1) := by decide +kernel
theorem dX2_canBeOne_48 : decode cX2_canBeOne 48 = .ok (.invokevirtual 53, 3) := by decide +kernel
theorem dX2_canBeOne_51 : decode cX2_canBeOne 51 = .ok (.ifCond .eq 7, 3) := by decide +kernel
theorem dX2_canBeOne_54 : decode cX2_canBeOne 54 = .ok (.iconst 1, 1) := by decide +kernel
theorem dX2_canBeOne_55 : decode cX2_canBeOne 55 = .ok (.goto 4, 3) := by decide +kernel
theorem dX2_canBeOne_58 : decode cX2_canBeOne 58 = .ok (.iconst 2, 1) := by decide +kernel
theorem dX2_canBeOne_59 : decode cX2_canBeOne 59 = .ok (.iastore, 1) := by decide +kernel
theorem dX2_canBeOne_60 : decode cX2_canBeOne 60 = .ok (.aload_n 0, 1) := by decide +kernel
theorem dX2_canBeOne_61 : decode cX2_canBeOne 61 = .ok (.getfield 20, 3) := by decide +kernel
theorem dX2_canBeOne_64 : decode cX2_canBeOne 64 = .ok (.iload_n 3, 1) := by decide +kernel
theorem dX2_canBeOne_65 : decode cX2_canBeOne 65 = .ok (.iaload, 1) := by decide +kernel
theorem dX2_canBeOne_66 : decode cX2_canBeOne 66 = .ok (.iconst 1, 1) := by decide +kernel
theorem dX2_canBeOne_67 : decode cX2_canBeOne 67 = .ok (.if_icmp .ne 7, 3) := by decide +kernel
theorem dX2_canBeOne_70 : decode cX2_canBeOne 70 = .ok (.iconst 1, 1) := by decide +kernel
theorem dX2_canBeOne_71 : decode cX2_canBeOne 71 = .ok (.goto 4, 3) := by decide +kernel
theorem dX2_canBeOne_74 : decode cX2_canBeOne 74 = .ok (.iconst 0, 1) := by decide +kernel
theorem dX2_canBeOne_75 : decode cX2_canBeOne 75 = .ok (.ireturn, 1) := by decide +kernel
theorem dX2_tryPair_0 : decode cX2_tryPair 0 = .ok (.aload_n 0, 1) := by decide +kernel
theorem dX2_tryPair_1 : decode cX2_tryPair 1 = .ok (.getfield 33, 3) := by decide +kernel
theorem dX2_tryPair_4 : decode cX2_tryPair 4 = .ok (.getfield 57, 3) := by decide +kernel
theorem dX2_tryPair_7 : decode cX2_tryPair 7 = .ok (.iload_n 1, 1) := by decide +kernel
theorem dX2_tryPair_8 : decode cX2_tryPair 8 = .ok (.iaload, 1) := by decide +kernel
theorem dX2_tryPair_9 : decode cX2_tryPair 9 = .ok (.istore_n 3, 1) := by decide +kernel
theorem dX2_tryPair_10 : decode cX2_tryPair 10 = .ok (.aload_n 0, 1) := by decide +kernel
theorem dX2_tryPair_11 : decode cX2_tryPair 11 = .ok (.getfield 33, 3) := by decide +kernel
theorem dX2_tryPair_14 : decode cX2_tryPair 14 = .ok (.getfield 57, 3) := by decide +kernel
theorem dX2_tryPair_17 : decode cX2_tryPair 17 = .ok (.iload_n 2, 1) := by decide +kernel
theorem dX2_tryPair_18 : decode cX2_tryPair 18 = .ok (.iaload, 1) := by decide +kernel
theorem dX2_tryPair_19 : decode cX2_tryPair 19 = .ok (.istore 4, 2) := by decide +kernel
theorem dX2_tryPair_21 : decode cX2_tryPair 21 = .ok (.iload 4, 2) := by decide +kernel
theorem dX2_tryPair_23 : decode cX2_tryPair 23 = .ok (.istore 5, 2) := by decide +kernel
theorem dX2_tryPair_25 : decode cX2_tryPair 25 = .ok (.iload 5, 2) := by decide +kernel
theorem dX2_tryPair_27 : decode cX2_tryPair 27 = .ok (.aload_n 0, 1) := by decide +kernel
theorem dX2_tryPair_28 : decode cX2_tryPair 28 = .ok (.getfield 33, 3) := by decide +kernel
theorem dX2_tryPair_31 : decode cX2_tryPair 31 = .ok (.getfield 57, 3) := by decide +kernel
theorem dX2_tryPair_34 : decode cX2_tryPair 34 = .ok (.iload_n 2, 1) := by decide +kernel
theorem dX2_tryPair_35 : decode cX2_tryPair 35 = .ok (.iconst 1, 1) := by decide +kernel
theorem dX2_tryPair_36 : decode cX2_tryPair 36 = .ok (.iadd, 1) := by decide +kernel
theorem dX2_tryPair_37 : decode cX2_tryPair 37 = .ok (.iaload, 1) := by decide +kernel
theorem dX2_tryPair_38 : decode cX2_tryPair 38 = .ok (.if_icmp .ge 21, 3) := by decide +kernel
theorem dX2_tryPair_41 : decode cX2_tryPair 41 = .ok (.aload_n 0, 1) := by decide +kernel
theorem dX2_tryPair_42 : decode cX2_tryPair 42 = .ok (.iload_n 3, 1) := by decide +kernel
theorem dX2_tryPair_43 : decode cX2_tryPair 43 = .ok (.iload 5, 2) := by decide +kernel
theorem dX2_tryPair_45 : decode cX2_tryPair 45 = .ok (.invokevirtual 60, 3) := by decide +kernel
theorem dX2_tryPair_48 : decode cX2_tryPair 48 = .ok (.ifCond .eq 5, 3) := by decide +kernel
theorem dX2_tryPair_51 : decode cX2_tryPair 51 = .ok (.iconst 1, 1) := by decide +kernel
theorem dX2_tryPair_52 : decode cX2_tryPair 52 = .ok (.ireturn, 1) := by decide +kernel
theorem dX2_tryPair_53 : decode cX2_tryPair 53 = .ok (.iinc 5 1, 3) := by decide +kernel
theorem dX2_tryPair_56 : decode cX2_tryPair 56 = .ok (.goto (-31), 3) := by decide +kernel
theorem dX2_tryPair_59 : decode cX2_tryPair 59 = .ok (.iload_n 3, 1) := by decide +kernel
theorem dX2_tryPair_60 : decode cX2_tryPair 60 = .ok (.iconst 1, 1) := by decide +kernel
theorem dX2_tryPair_61 : decode cX2_tryPair 61 = .ok (.iadd, 1) := by decide +kernel
theorem dX2_tryPair_62 : decode cX2_tryPair 62 = .ok (.istore 5, 2) := by decide +kernel
theorem dX2_tryPair_64 : decode cX2_tryPair 64 = .ok (.iload 5, 2) := by decide +kernel
theorem dX2_tryPair_66 : decode cX2_tryPair 66 = .ok (.aload_n 0, 1) := by decide +kernel
theorem dX2_tryPair_67 : decode cX2_tryPair 67 = .ok (.getfield 33, 3) := by decide +kernel
theorem dX2_tryPair_70 : decode cX2_tryPair 70 = .ok (.getfield 57, 3) := by decide +kernel
theorem dX2_tryPair_73 : decode cX2_tryPair 73 = .ok (.iload_n 1, 1) := by decide +kernel
theorem dX2_tryPair_74 : decode cX2_tryPair 74 = .ok (.iconst 1, 1) := by decide +kernel
theorem dX2_tryPair_75 : decode cX2_tryPair 75 = .ok (.iadd, 1) := by decide +kernel
theorem dX2_tryPair_76 : decode cX2_tryPair 76 = .ok (.iaload, 1) := by decide +kernel
theorem dX2_tryPair_77 : decode cX2_tryPair 77 = .ok (.if_icmp .ge 22, 3) := by decide +kernel
theorem dX2_tryPair_80 : decode cX2_tryPair 80 = .ok (.aload_n 0, 1) := by decide +kernel
theorem dX2_tryPair_81 : decode cX2_tryPair 81 = .ok (.iload 5, 2) := by decide +kernel
theorem dX2_tryPair_83 : decode cX2_tryPair 83 = .ok (.iload 4, 2) := by decide +kernel
theorem dX2_tryPair_85 : decode cX2_tryPair 85 = .ok (.invokevirtual 60, 3) := by decide +kernel
theorem dX2_tryPair_88 : decode cX2_tryPair 88 = .ok (.ifCond .eq 5, 3) := by decide +kernel
theorem dX2_tryPair_91 : decode cX2_tryPair 91 = .ok (.iconst 1, 1) := by decide +kernel
theorem dX2_tryPair_92 : decode cX2_tryPair 92 = .ok (.ireturn, 1) := by decide +kernel
theorem dX2_tryPair_93 : decode cX2_tryPair 93 = .ok (.iinc 5 1, 3) := by decide +kernel
theorem dX2_tryPair_96 : decode cX2_tryPair 96 = .ok (.goto (-32), 3) := by decide +kernel
theorem dX2_tryPair_99 : decode cX2_tryPair 99 = .ok (.iconst 0, 1) := by decide +kernel
theorem dX2_tryPair_100 : decode cX2_tryPair 100 = .ok (.ireturn, 1) := by decide +kernel
theorem dX2_tryOnly_0 : decode cX2_tryOnly 0 = .ok (.aload_n 0, 1) := by decide +kernel
theorem dX2_tryOnly_1 : decode cX2_tryOnly 1 = .ok (.getfield 14, 3) := by decide +kernel
theorem dX2_tryOnly_4 : decode cX2_tryOnly 4 = .ok (.aload_n 0, 1) := by decide +kernel
theorem dX2_tryOnly_5 : decode cX2_tryOnly 5 = .ok (.getfield 33, 3) := by decide +kernel
theorem dX2_tryOnly_8 : decode cX2_tryOnly 8 = .ok (.getfield 63, 3) := by decide +kernel
theorem dX2_tryOnly_11 : decode cX2_tryOnly 11 = .ok (.invokevirtual 66, 3) := by decide +kernel
theorem dX2_tryOnly_14 : decode cX2_tryOnly 14 = .ok (.aload_n 0, 1) := by decide +kernel
theorem dX2_tryOnly_15 : decode cX2_tryOnly 15 = .ok (.getfield 14, 3) := by decide +kernel
theorem dX2_tryOnly_18 : decode cX2_tryOnly 18 = .ok (.iload_n 1, 1) := by decide +kernel
theorem dX2_tryOnly_19 : decode cX2_tryOnly 19 = .ok (.iload_n 2, 1) := by decide +kernel
theorem dX2_tryOnly_20 : decode cX2_tryOnly 20 = .ok (.invokevirtual 70, 3) := by decide +kernel
theorem dX2_tryOnly_23 : decode cX2_tryOnly 23 = .ok (.aload_n 0, 1) := by decide +kernel
theorem dX2_tryOnly_24 : decode cX2_tryOnly 24 = .ok (.getfield 33, 3) := by decide +kernel
theorem dX2_tryOnly_27 : decode cX2_tryOnly 27 = .ok (.getfield 73, 3) := by decide +kernel
theorem dX2_tryOnly_30 : decode cX2_tryOnly 30 = .ok (.aload_n 0, 1) := by decide +kernel
theorem dX2_tryOnly_31 : decode cX2_tryOnly 31 = .ok (.getfield 14, 3) := by decide +kernel
theorem dX2_tryOnly_34 : decode cX2_tryOnly 34 = .ok (.invokevirtual 77, 3) := by decide +kernel
theorem dX2_tryOnly_37 : decode cX2_tryOnly 37 = .ok (.ifCond .ne 7, 3) := by decide +kernel
theorem dX2_tryOnly_40 : decode cX2_tryOnly 40 = .ok (.iconst 1, 1) := by decide +kernel
theorem dX2_tryOnly_41 : decode cX2_tryOnly 41 = .ok (.goto 4, 3) := by decide +kernel
theorem dX2_tryOnly_44 : decode cX2_tryOnly 44 = .ok (.iconst 0, 1) := by decide +kernel
theorem dX2_tryOnly_45 : decode cX2_tryOnly 45 = .ok (.ireturn, 1) := by decide +kernel
theorem dX2_fewestCorners_0 : decode cX2_fewestCorners 0 = .ok (.aload_n 0, 1) := by decide +kernel
theorem dX2_fewestCorners_1 : decode cX2_fewestCorners 1 = .ok (.getfield 43, 3) := by decide +kernel
theorem dX2_fewestCorners_4 : decode cX2_fewestCorners 4 = .ok (.iconst (-1), 1) := by decide +kernel
theorem dX2_fewestCorners_5 : decode cX2_fewestCorners 5 = .ok (.if_icmp .ne 31, 3) := by decide +kernel
theorem dX2_fewestCorners_8 : decode cX2_fewestCorners 8 = .ok (.aload_n 0, 1) := by decide +kernel
theorem dX2_fewestCorners_9 : decode cX2_fewestCorners 9 = .ok (.invokevirtual 83, 3) := by decide +kernel
theorem dX2_fewestCorners_12 : decode cX2_fewestCorners 12 = .ok (.aload_n 0, 1) := by decide +kernel
theorem dX2_fewestCorners_13 : decode cX2_fewestCorners 13 = .ok (.aload_n 0, 1) := by decide +kernel
theorem dX2_fewestCorners_14 : decode cX2_fewestCorners 14 = .ok (.iconst 0, 1) := by decide +kernel
theorem dX2_fewestCorners_15 : decode cX2_fewestCorners 15 = .ok (.iconst 0, 1) := by decide +kernel
theorem dX2_fewestCorners_16 : decode cX2_fewestCorners 16 = .ok (.aload_n 0, 1) := by decide +kernel
theorem dX2_fewestCorners_17 : decode cX2_fewestCorners 17 = .ok (.getfield 33, 3) := by decide +kernel
theorem dX2_fewestCorners_20 : decode cX2_fewestCorners 20 = .ok (.getfield 86, 3) := by decide +kernel
theorem dX2_fewestCorners_23 : decode cX2_fewestCorners 23 = .ok (.aload_n 0, 1) := by decide +kernel
theorem dX2_fewestCorners_24 : decode cX2_fewestCorners 24 = .ok (.getfield 33, 3) := by decide +kernel
theorem dX2_fewestCorners_27 : decode cX2_fewestCorners 27 = .ok (.getfield 86, 3) := by decide +kernel
theorem dX2_fewestCorners_30 : decode cX2_fewestCorners 30 = .ok (.invokevirtual 89, 3) := by decide +kernel
theorem dX2_fewestCorners_33 : decode cX2_fewestCorners 33 = .ok (.putfield 43, 3) := by decide +kernel
theorem dX2_fewestCorners_36 : decode cX2_fewestCorners 36 = .ok (.aload_n 0, 1) := by decide +kernel
theorem dX2_fewestCorners_37 : decode cX2_fewestCorners 37 = .ok (.getfield 43, 3) := by decide +kernel
theorem dX2_fewestCorners_40 : decode cX2_fewestCorners 40 = .ok (.ireturn, 1) := by decide +kernel
theorem dX2_gatherTries_0 : decode cX2_gatherTries 0 = .ok (.aload_n 0, 1) := by decide +kernel
theorem dX2_gatherTries_1 : decode cX2_gatherTries 1 = .ok (.iconst 0, 1) := by decide +kernel
theorem dX2_gatherTries_2 : decode cX2_gatherTries 2 = .ok (.putfield 93, 3) := by decide +kernel
theorem dX2_gatherTries_5 : decode cX2_gatherTries 5 = .ok (.iconst 0, 1) := by decide +kernel
theorem dX2_gatherTries_6 : decode cX2_gatherTries 6 = .ok (.istore_n 1, 1) := by decide +kernel
theorem dX2_gatherTries_7 : decode cX2_gatherTries 7 = .ok (.iload_n 1, 1) := by decide +kernel
theorem dX2_gatherTries_8 : decode cX2_gatherTries 8 = .ok (.aload_n 0, 1) := by decide +kernel
theorem dX2_gatherTries_9 : decode cX2_gatherTries 9 = .ok (.getfield 33, 3) := by decide +kernel
theorem dX2_gatherTries_12 : decode cX2_gatherTries 12 = .ok (.getfield 86, 3) := by decide +kernel
theorem dX2_gatherTries_15 : decode cX2_gatherTries 15 = .ok (.if_icmp .ge 122, 3) := by decide +kernel
theorem dX2_gatherTries_18 : decode cX2_gatherTries 18 = .ok (.iload_n 1, 1) := by decide +kernel
theorem dX2_gatherTries_19 : decode cX2_gatherTries 19 = .ok (.iconst 1, 1) := by decide +kernel
theorem dX2_gatherTries_20 : decode cX2_gatherTries 20 = .ok (.iadd, 1) := by decide +kernel
theorem dX2_gatherTries_21 : decode cX2_gatherTries 21 = .ok (.istore_n 2, 1) := by decide +kernel
theorem dX2_gatherTries_22 : decode cX2_gatherTries 22 = .ok (.iload_n 2, 1) := by decide +kernel
theorem dX2_gatherTries_23 : decode cX2_gatherTries 23 = .ok (.aload_n 0, 1) := by decide +kernel
theorem dX2_gatherTries_24 : decode cX2_gatherTries 24 = .ok (.getfield 33, 3) := by decide +kernel
theorem dX2_gatherTries_27 : decode cX2_gatherTries 27 = .ok (.getfield 86, 3) := by decide +kernel
theorem dX2_gatherTries_30 : decode cX2_gatherTries 30 = .ok (.if_icmp .ge 101, 3) := by decide +kernel
theorem dX2_gatherTries_33 : decode cX2_gatherTries 33 = .ok (.aload_n 0, 1) := by decide +kernel
theorem dX2_gatherTries_34 : decode cX2_gatherTries 34 = .ok (.getfield 33, 3) := by decide +kernel
theorem dX2_gatherTries_37 : decode cX2_gatherTries 37 = .ok (.getfield 57, 3) := by decide +kernel
theorem dX2_gatherTries_40 : decode cX2_gatherTries 40 = .ok (.iload_n 2, 1) := by decide +kernel
theorem dX2_gatherTries_41 : decode cX2_gatherTries 41 = .ok (.iaload, 1) := by decide +kernel
theorem dX2_gatherTries_42 : decode cX2_gatherTries 42 = .ok (.istore_n 3, 1) := by decide +kernel
theorem dX2_gatherTries_43 : decode cX2_gatherTries 43 = .ok (.iload_n 3, 1) := by decide +kernel
theorem dX2_gatherTries_44 : decode cX2_gatherTries 44 = .ok (.aload_n 0, 1) := by decide +kernel
theorem dX2_gatherTries_45 : decode cX2_gatherTries 45 = .ok (.getfield 33, 3) := by decide +kernel
theorem dX2_gatherTries_48 : decode cX2_gatherTries 48 = .ok (.getfield 57, 3) := by decide +kernel
theorem dX2_gatherTries_51 : decode cX2_gatherTries 51 = .ok (.iload_n 2, 1) := by decide +kernel
theorem dX2_gatherTries_52 : decode cX2_gatherTries 52 = .ok (.iconst 1, 1) := by decide +kernel
theorem dX2_gatherTries_53 : decode cX2_gatherTries 53 = .ok (.iadd, 1) := by decide +kernel
theorem dX2_gatherTries_54 : decode cX2_gatherTries 54 = .ok (.iaload, 1) := by decide +kernel
theorem dX2_gatherTries_55 : decode cX2_gatherTries 55 = .ok (.if_icmp .ge 23, 3) := by decide +kernel
theorem dX2_gatherTries_58 : decode cX2_gatherTries 58 = .ok (.aload_n 0, 1) := by decide +kernel
theorem dX2_gatherTries_59 : decode cX2_gatherTries 59 = .ok (.aload_n 0, 1) := by decide +kernel
theorem dX2_gatherTries_60 : decode cX2_gatherTries 60 = .ok (.getfield 33, 3) := by decide +kernel
theorem dX2_gatherTries_63 : decode cX2_gatherTries 63 = .ok (.getfield 57, 3) := by decide +kernel
theorem dX2_gatherTries_66 : decode cX2_gatherTries 66 = .ok (.iload_n 1, 1) := by decide +kernel
theorem dX2_gatherTries_67 : decode cX2_gatherTries 67 = .ok (.iaload, 1) := by decide +kernel
theorem dX2_gatherTries_68 : decode cX2_gatherTries 68 = .ok (.iload_n 3, 1) := by decide +kernel
theorem dX2_gatherTries_69 : decode cX2_gatherTries 69 = .ok (.invokevirtual 96, 3) := by decide +kernel
theorem dX2_gatherTries_72 : decode cX2_gatherTries 72 = .ok (.iinc 3 1, 3) := by decide +kernel
theorem dX2_gatherTries_75 : decode cX2_gatherTries 75 = .ok (.goto (-32), 3) := by decide +kernel
theorem dX2_gatherTries_78 : decode cX2_gatherTries 78 = .ok (.aload_n 0, 1) := by decide +kernel
theorem dX2_gatherTries_79 : decode cX2_gatherTries 79 = .ok (.getfield 33, 3) := by decide +kernel
theorem dX2_gatherTries_82 : decode cX2_gatherTries 82 = .ok (.getfield 57, 3) := by decide +kernel
theorem dX2_gatherTries_85 : decode cX2_gatherTries 85 = .ok (.iload_n 1, 1) := by decide +kernel
theorem dX2_gatherTries_86 : decode cX2_gatherTries 86 = .ok (.iaload, 1) := by decide +kernel
theorem dX2_gatherTries_87 : decode cX2_gatherTries 87 = .ok (.iconst 1, 1) := by decide +kernel
theorem dX2_gatherTries_88 : decode cX2_gatherTries 88 = .ok (.iadd, 1) := by decide +kernel
theorem dX2_gatherTries_89 : decode cX2_gatherTries 89 = .ok (.istore_n 3, 1) := by decide +kernel
theorem dX2_gatherTries_90 : decode cX2_gatherTries 90 = .ok (.iload_n 3, 1) := by decide +kernel
theorem dX2_gatherTries_91 : decode cX2_gatherTries 91 = .ok (.aload_n 0, 1) := by decide +kernel
theorem dX2_gatherTries_92 : decode cX2_gatherTries 92 = .ok (.getfield 33, 3) := by decide +kernel
theorem dX2_gatherTries_95 : decode cX2_gatherTries 95 = .ok (.getfield 57, 3) := by decide +kernel
theorem dX2_gatherTries_98 : decode cX2_gatherTries 98 = .ok (.iload_n 1, 1) := by decide +kernel
theorem dX2_gatherTries_99 : decode cX2_gatherTries 99 = .ok (.iconst 1, 1) := by decide +kernel
theorem dX2_gatherTries_100 : decode cX2_gatherTries 100 = .ok (.iadd, 1) := by decide +kernel
theorem dX2_gatherTries_101 : decode cX2_gatherTries 101 = .ok (.iaload, 1) := by decide +kernel
theorem dX2_gatherTries_102 : decode cX2_gatherTries 102 = .ok (.if_icmp .ge 23, 3) := by decide +kernel
theorem dX2_gatherTries_105 : decode cX2_gatherTries 105 = .ok (.aload_n 0, 1) := by decide +kernel
theorem dX2_gatherTries_106 : decode cX2_gatherTries 106 = .ok (.iload_n 3, 1) := by decide +kernel
theorem dX2_gatherTries_107 : decode cX2_gatherTries 107 = .ok (.aload_n 0, 1) := by decide +kernel
theorem dX2_gatherTries_108 : decode cX2_gatherTries 108 = .ok (.getfield 33, 3) := by decide +kernel
theorem dX2_gatherTries_111 : decode cX2_gatherTries 111 = .ok (.getfield 57, 3) := by decide +kernel
theorem dX2_gatherTries_114 : decode cX2_gatherTries 114 = .ok (.iload_n 2, 1) := by decide +kernel
theorem dX2_gatherTries_115 : decode cX2_gatherTries 115 = .ok (.iaload, 1) := by decide +kernel
theorem dX2_gatherTries_116 : decode cX2_gatherTries 116 = .ok (.invokevirtual 96, 3) := by decide +kernel
theorem dX2_gatherTries_119 : decode cX2_gatherTries 119 = .ok (.iinc 3 1, 3) := by decide +kernel
theorem dX2_gatherTries_122 : decode cX2_gatherTries 122 = .ok (.goto (-32), 3) := by decide +kernel
theorem dX2_gatherTries_125 : decode cX2_gatherTries 125 = .ok (.iinc 2 1, 3) := by decide +kernel
theorem dX2_gatherTries_128 : decode cX2_gatherTries 128 = .ok (.goto (-106), 3) := by decide +kernel
theorem dX2_gatherTries_131 : decode cX2_gatherTries 131 = .ok (.iinc 1 1, 3) := by decide +kernel
theorem dX2_gatherTries_134 : decode cX2_gatherTries 134 = .ok (.goto (-127), 3) := by decide +kernel
theorem dX2_gatherTries_137 : decode cX2_gatherTries 137 = .ok (.return_, 1) := by decide +kernel
theorem dX2_gather_0 : decode cX2_gather 0 = .ok (.aload_n 0, 1) := by decide +kernel
theorem dX2_gather_1 : decode cX2_gather 1 = .ok (.getfield 93, 3) := by decide +kernel
theorem dX2_gather_4 : decode cX2_gather 4 = .ok (.bipush 72, 2) := by decide +kernel
theorem dX2_gather_6 : decode cX2_gather 6 = .ok (.if_icmp .ge 42, 3) := by decide +kernel
theorem dX2_gather_9 : decode cX2_gather 9 = .ok (.aload_n 0, 1) := by decide +kernel
theorem dX2_gather_10 : decode cX2_gather 10 = .ok (.iload_n 1, 1) := by decide +kernel
theorem dX2_gather_11 : decode cX2_gather 11 = .ok (.iload_n 2, 1) := by decide +kernel
theorem dX2_gather_12 : decode cX2_gather 12 = .ok (.invokevirtual 60, 3) := by decide +kernel
theorem dX2_gather_15 : decode cX2_gather 15 = .ok (.ifCond .eq 33, 3) := by decide +kernel
theorem dX2_gather_18 : decode cX2_gather 18 = .ok (.aload_n 0, 1) := by decide +kernel
theorem dX2_gather_19 : decode cX2_gather 19 = .ok (.getfield 24, 3) := by decide +kernel
theorem dX2_gather_22 : decode cX2_gather 22 = .ok (.aload_n 0, 1) := by decide +kernel
theorem dX2_gather_23 : decode cX2_gather 23 = .ok (.getfield 93, 3) := by decide +kernel
theorem dX2_gather_26 : decode cX2_gather 26 = .ok (.iload_n 1, 1) := by decide +kernel
theorem dX2_gather_27 : decode cX2_gather 27 = .ok (.iastore, 1) := by decide +kernel
theorem dX2_gather_28 : decode cX2_gather 28 = .ok (.aload_n 0, 1) := by decide +kernel
theorem dX2_gather_29 : decode cX2_gather 29 = .ok (.getfield 27, 3) := by decide +kernel
theorem dX2_gather_32 : decode cX2_gather 32 = .ok (.aload_n 0, 1) := by decide +kernel
theorem dX2_gather_33 : decode cX2_gather 33 = .ok (.getfield 93, 3) := by decide +kernel
theorem dX2_gather_36 : decode cX2_gather 36 = .ok (.iload_n 2, 1) := by decide +kernel
theorem dX2_gather_37 : decode cX2_gather 37 = .ok (.iastore, 1) := by decide +kernel
theorem dX2_gather_38 : decode cX2_gather 38 = .ok (.aload_n 0, 1) := by decide +kernel
theorem dX2_gather_39 : decode cX2_gather 39 = .ok (.dup, 1) := by decide +kernel
theorem dX2_gather_40 : decode cX2_gather 40 = .ok (.getfield 93, 3) := by decide +kernel
theorem dX2_gather_43 : decode cX2_gather 43 = .ok (.iconst 1, 1) := by decide +kernel
theorem dX2_gather_44 : decode cX2_gather 44 = .ok (.iadd, 1) := by decide +kernel
theorem dX2_gather_45 : decode cX2_gather 45 = .ok (.putfield 93, 3) := by decide +kernel
theorem dX2_gather_48 : decode cX2_gather 48 = .ok (.return_, 1) := by decide +kernel
theorem dX2_search_0 : decode cX2_search 0 = .ok (.iload 4, 2) := by decide +kernel
theorem dX2_search_2 : decode cX2_search 2 = .ok (.istore 5, 2) := by decide +kernel
theorem dX2_search_4 : decode cX2_search 4 = .ok (.iload_n 1, 1) := by decide +kernel
theorem dX2_search_5 : decode cX2_search 5 = .ok (.istore 6, 2) := by decide +kernel
theorem dX2_search_7 : decode cX2_search 7 = .ok (.iload 6, 2) := by decide +kernel
theorem dX2_search_9 : decode cX2_search 9 = .ok (.aload_n 0, 1) := by decide +kernel
theorem dX2_search_10 : decode cX2_search 10 = .ok (.getfield 93, 3) := by decide +kernel
theorem dX2_search_13 : decode cX2_search 13 = .ok (.if_icmp .ge 65, 3) := by decide +kernel
theorem dX2_search_16 : decode cX2_search 16 = .ok (.iload_n 2, 1) := by decide +kernel
theorem dX2_search_17 : decode cX2_search 17 = .ok (.iconst 4, 1) := by decide +kernel
theorem dX2_search_18 : decode cX2_search 18 = .ok (.if_icmp .ge 60, 3) := by decide +kernel
theorem dX2_search_21 : decode cX2_search 21 = .ok (.iload 5, 2) := by decide +kernel
theorem dX2_search_23 : decode cX2_search 23 = .ok (.iconst 1, 1) := by decide +kernel
theorem dX2_search_24 : decode cX2_search 24 = .ok (.if_icmp .le 54, 3) := by decide +kernel
theorem dX2_search_27 : decode cX2_search 27 = .ok (.aload_n 0, 1) := by decide +kernel
theorem dX2_search_28 : decode cX2_search 28 = .ok (.getfield 30, 3) := by decide +kernel
theorem dX2_search_31 : decode cX2_search 31 = .ok (.iload_n 2, 1) := by decide +kernel
theorem dX2_search_32 : decode cX2_search 32 = .ok (.iload 6, 2) := by decide +kernel
theorem dX2_search_34 : decode cX2_search 34 = .ok (.iastore, 1) := by decide +kernel
theorem dX2_search_35 : decode cX2_search 35 = .ok (.aload_n 0, 1) := by decide +kernel
theorem dX2_search_36 : decode cX2_search 36 = .ok (.iload_n 2, 1) := by decide +kernel
theorem dX2_search_37 : decode cX2_search 37 = .ok (.iconst 1, 1) := by decide +kernel
theorem dX2_search_38 : decode cX2_search 38 = .ok (.iadd, 1) := by decide +kernel
theorem dX2_search_39 : decode cX2_search 39 = .ok (.invokevirtual 99, 3) := by decide +kernel
theorem dX2_search_42 : decode cX2_search 42 = .ok (.istore 7, 2) := by decide +kernel
theorem dX2_search_44 : decode cX2_search 44 = .ok (.iload 7, 2) := by decide +kernel
theorem dX2_search_46 : decode cX2_search 46 = .ok (.iload_n 3, 1) := by decide +kernel
theorem dX2_search_47 : decode cX2_search 47 = .ok (.if_icmp .ge 25, 3) := by decide +kernel
theorem dX2_search_50 : decode cX2_search 50 = .ok (.aload_n 0, 1) := by decide +kernel
theorem dX2_search_51 : decode cX2_search 51 = .ok (.iload 6, 2) := by decide +kernel
theorem dX2_search_53 : decode cX2_search 53 = .ok (.iconst 1, 1) := by decide +kernel
theorem dX2_search_54 : decode cX2_search 54 = .ok (.iadd, 1) := by decide +kernel
theorem dX2_search_55 : decode cX2_search 55 = .ok (.iload_n 2, 1) := by decide +kernel
theorem dX2_search_56 : decode cX2_search 56 = .ok (.iconst 1, 1) := by decide +kernel
theorem dX2_search_57 : decode cX2_search 57 = .ok (.iadd, 1) := by decide +kernel
theorem dX2_search_58 : decode cX2_search 58 = .ok (.iload 7, 2) := by decide +kernel
theorem dX2_search_60 : decode cX2_search 60 = .ok (.iload 5, 2) := by decide +kernel
theorem dX2_search_62 : decode cX2_search 62 = .ok (.iload 7, 2) := by decide +kernel
theorem dX2_search_64 : decode cX2_search 64 = .ok (.invokestatic 103, 3) := by decide +kernel
theorem dX2_search_67 : decode cX2_search 67 = .ok (.invokevirtual 89, 3) := by decide +kernel
