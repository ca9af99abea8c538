theorem dX5_lanes_2 : decode cX5_lanes 2 = .ok (.iconst 0, 1) := by decide +kernel
theorem dX5_lanes_3 : decode cX5_lanes 3 = .ok (.istore_n 2, 1) := by decide +kernel
theorem dX5_lanes_4 : decode cX5_lanes 4 = .ok (.iload_n 2, 1) := by decide +kernel
theorem dX5_lanes_5 : decode cX5_lanes 5 = .ok (.aload_n 0, 1) := by decide +kernel
theorem dX5_lanes_6 : decode cX5_lanes 6 = .ok (.getfield 66, 3) := by decide +kernel
theorem dX5_lanes_9 : decode cX5_lanes 9 = .ok (.if_icmp .ge 17, 3) := by decide +kernel
theorem dX5_lanes_12 : decode cX5_lanes 12 = .ok (.iload_n 1, 1) := by decide +kernel
theorem dX5_lanes_13 : decode cX5_lanes 13 = .ok (.aload_n 0, 1) := by decide +kernel
theorem dX5_lanes_14 : decode cX5_lanes 14 = .ok (.iload_n 2, 1) := by decide +kernel
theorem dX5_lanes_15 : decode cX5_lanes 15 = .ok (.invokevirtual 197, 3) := by decide +kernel
theorem dX5_lanes_18 : decode cX5_lanes 18 = .ok (.iadd, 1) := by decide +kernel
theorem dX5_lanes_19 : decode cX5_lanes 19 = .ok (.istore_n 1, 1) := by decide +kernel
theorem dX5_lanes_20 : decode cX5_lanes 20 = .ok (.iinc 2 1, 3) := by decide +kernel
theorem dX5_lanes_23 : decode cX5_lanes 23 = .ok (.goto (-19), 3) := by decide +kernel
theorem dX5_lanes_26 : decode cX5_lanes 26 = .ok (.aload_n 0, 1) := by decide +kernel
theorem dX5_lanes_27 : decode cX5_lanes 27 = .ok (.getfield 14, 3) := by decide +kernel
theorem dX5_lanes_30 : decode cX5_lanes 30 = .ok (.getfield 73, 3) := by decide +kernel
theorem dX5_lanes_33 : decode cX5_lanes 33 = .ok (.iload_n 1, 1) := by decide +kernel
theorem dX5_lanes_34 : decode cX5_lanes 34 = .ok (.isub, 1) := by decide +kernel
theorem dX5_lanes_35 : decode cX5_lanes 35 = .ok (.iconst 2, 1) := by decide +kernel
theorem dX5_lanes_36 : decode cX5_lanes 36 = .ok (.idiv, 1) := by decide +kernel
theorem dX5_lanes_37 : decode cX5_lanes 37 = .ok (.ireturn, 1) := by decide +kernel
theorem dX5_parts_0 : decode cX5_parts 0 = .ok (.iconst 0, 1) := by decide +kernel
theorem dX5_parts_1 : decode cX5_parts 1 = .ok (.istore_n 1, 1) := by decide +kernel
theorem dX5_parts_2 : decode cX5_parts 2 = .ok (.iload_n 1, 1) := by decide +kernel
theorem dX5_parts_3 : decode cX5_parts 3 = .ok (.aload_n 0, 1) := by decide +kernel
theorem dX5_parts_4 : decode cX5_parts 4 = .ok (.getfield 66, 3) := by decide +kernel
theorem dX5_parts_7 : decode cX5_parts 7 = .ok (.if_icmp .ge 16, 3) := by decide +kernel
theorem dX5_parts_10 : decode cX5_parts 10 = .ok (.aload_n 0, 1) := by decide +kernel
theorem dX5_parts_11 : decode cX5_parts 11 = .ok (.getfield 57, 3) := by decide +kernel
theorem dX5_parts_14 : decode cX5_parts 14 = .ok (.iload_n 1, 1) := by decide +kernel
theorem dX5_parts_15 : decode cX5_parts 15 = .ok (.iload_n 1, 1) := by decide +kernel
theorem dX5_parts_16 : decode cX5_parts 16 = .ok (.iastore, 1) := by decide +kernel
theorem dX5_parts_17 : decode cX5_parts 17 = .ok (.iinc 1 1, 3) := by decide +kernel
theorem dX5_parts_20 : decode cX5_parts 20 = .ok (.goto (-18), 3) := by decide +kernel
theorem dX5_parts_23 : decode cX5_parts 23 = .ok (.aload_n 0, 1) := by decide +kernel
theorem dX5_parts_24 : decode cX5_parts 24 = .ok (.getfield 66, 3) := by decide +kernel
theorem dX5_parts_27 : decode cX5_parts 27 = .ok (.istore_n 1, 1) := by decide +kernel
theorem dX5_parts_28 : decode cX5_parts 28 = .ok (.iconst 0, 1) := by decide +kernel
theorem dX5_parts_29 : decode cX5_parts 29 = .ok (.istore_n 2, 1) := by decide +kernel
theorem dX5_parts_30 : decode cX5_parts 30 = .ok (.iload_n 2, 1) := by decide +kernel
theorem dX5_parts_31 : decode cX5_parts 31 = .ok (.aload_n 0, 1) := by decide +kernel
theorem dX5_parts_32 : decode cX5_parts 32 = .ok (.getfield 14, 3) := by decide +kernel
theorem dX5_parts_35 : decode cX5_parts 35 = .ok (.getfield 73, 3) := by decide +kernel
theorem dX5_parts_38 : decode cX5_parts 38 = .ok (.if_icmp .ge 64, 3) := by decide +kernel
theorem dX5_parts_41 : decode cX5_parts 41 = .ok (.aload_n 0, 1) := by decide +kernel
theorem dX5_parts_42 : decode cX5_parts 42 = .ok (.getfield 14, 3) := by decide +kernel
theorem dX5_parts_45 : decode cX5_parts 45 = .ok (.getfield 139, 3) := by decide +kernel
theorem dX5_parts_48 : decode cX5_parts 48 = .ok (.iload_n 2, 1) := by decide +kernel
theorem dX5_parts_49 : decode cX5_parts 49 = .ok (.iaload, 1) := by decide +kernel
theorem dX5_parts_50 : decode cX5_parts 50 = .ok (.ifCond .lt 46, 3) := by decide +kernel
theorem dX5_parts_53 : decode cX5_parts 53 = .ok (.iload_n 1, 1) := by decide +kernel
theorem dX5_parts_54 : decode cX5_parts 54 = .ok (.aload_n 0, 1) := by decide +kernel
theorem dX5_parts_55 : decode cX5_parts 55 = .ok (.aload_n 0, 1) := by decide +kernel
theorem dX5_parts_56 : decode cX5_parts 56 = .ok (.getfield 57, 3) := by decide +kernel
theorem dX5_parts_59 : decode cX5_parts 59 = .ok (.aload_n 0, 1) := by decide +kernel
theorem dX5_parts_60 : decode cX5_parts 60 = .ok (.getfield 14, 3) := by decide +kernel
theorem dX5_parts_63 : decode cX5_parts 63 = .ok (.getfield 107, 3) := by decide +kernel
theorem dX5_parts_66 : decode cX5_parts 66 = .ok (.iload_n 2, 1) := by decide +kernel
theorem dX5_parts_67 : decode cX5_parts 67 = .ok (.iaload, 1) := by decide +kernel
theorem dX5_parts_68 : decode cX5_parts 68 = .ok (.iaload, 1) := by decide +kernel
theorem dX5_parts_69 : decode cX5_parts 69 = .ok (.aload_n 0, 1) := by decide +kernel
theorem dX5_parts_70 : decode cX5_parts 70 = .ok (.getfield 57, 3) := by decide +kernel
theorem dX5_parts_73 : decode cX5_parts 73 = .ok (.aload_n 0, 1) := by decide +kernel
theorem dX5_parts_74 : decode cX5_parts 74 = .ok (.getfield 14, 3) := by decide +kernel
theorem dX5_parts_77 : decode cX5_parts 77 = .ok (.getfield 107, 3) := by decide +kernel
theorem dX5_parts_80 : decode cX5_parts 80 = .ok (.aload_n 0, 1) := by decide +kernel
theorem dX5_parts_81 : decode cX5_parts 81 = .ok (.getfield 14, 3) := by decide +kernel
theorem dX5_parts_84 : decode cX5_parts 84 = .ok (.getfield 139, 3) := by decide +kernel
theorem dX5_parts_87 : decode cX5_parts 87 = .ok (.iload_n 2, 1) := by decide +kernel
theorem dX5_parts_88 : decode cX5_parts 88 = .ok (.iaload, 1) := by decide +kernel
theorem dX5_parts_89 : decode cX5_parts 89 = .ok (.iaload, 1) := by decide +kernel
theorem dX5_parts_90 : decode cX5_parts 90 = .ok (.iaload, 1) := by decide +kernel
theorem dX5_parts_91 : decode cX5_parts 91 = .ok (.invokevirtual 200, 3) := by decide +kernel
theorem dX5_parts_94 : decode cX5_parts 94 = .ok (.isub, 1) := by decide +kernel
theorem dX5_parts_95 : decode cX5_parts 95 = .ok (.istore_n 1, 1) := by decide +kernel
theorem dX5_parts_96 : decode cX5_parts 96 = .ok (.iinc 2 1, 3) := by decide +kernel
theorem dX5_parts_99 : decode cX5_parts 99 = .ok (.goto (-69), 3) := by decide +kernel
theorem dX5_parts_102 : decode cX5_parts 102 = .ok (.iload_n 1, 1) := by decide +kernel
theorem dX5_parts_103 : decode cX5_parts 103 = .ok (.ireturn, 1) := by decide +kernel
theorem dX5_joinParts_0 : decode cX5_joinParts 0 = .ok (.iload_n 1, 1) := by decide +kernel
theorem dX5_joinParts_1 : decode cX5_joinParts 1 = .ok (.iload_n 2, 1) := by decide +kernel
theorem dX5_joinParts_2 : decode cX5_joinParts 2 = .ok (.if_icmp .ne 5, 3) := by decide +kernel
theorem dX5_joinParts_5 : decode cX5_joinParts 5 = .ok (.iconst 0, 1) := by decide +kernel
theorem dX5_joinParts_6 : decode cX5_joinParts 6 = .ok (.ireturn, 1) := by decide +kernel
theorem dX5_joinParts_7 : decode cX5_joinParts 7 = .ok (.iconst 0, 1) := by decide +kernel
theorem dX5_joinParts_8 : decode cX5_joinParts 8 = .ok (.istore_n 3, 1) := by decide +kernel
theorem dX5_joinParts_9 : decode cX5_joinParts 9 = .ok (.iload_n 3, 1) := by decide +kernel
theorem dX5_joinParts_10 : decode cX5_joinParts 10 = .ok (.aload_n 0, 1) := by decide +kernel
theorem dX5_joinParts_11 : decode cX5_joinParts 11 = .ok (.getfield 66, 3) := by decide +kernel
theorem dX5_joinParts_14 : decode cX5_joinParts 14 = .ok (.if_icmp .ge 26, 3) := by decide +kernel
theorem dX5_joinParts_17 : decode cX5_joinParts 17 = .ok (.aload_n 0, 1) := by decide +kernel
theorem dX5_joinParts_18 : decode cX5_joinParts 18 = .ok (.getfield 57, 3) := by decide +kernel
theorem dX5_joinParts_21 : decode cX5_joinParts 21 = .ok (.iload_n 3, 1) := by decide +kernel
theorem dX5_joinParts_22 : decode cX5_joinParts 22 = .ok (.iaload, 1) := by decide +kernel
theorem dX5_joinParts_23 : decode cX5_joinParts 23 = .ok (.iload_n 2, 1) := by decide +kernel
theorem dX5_joinParts_24 : decode cX5_joinParts 24 = .ok (.if_icmp .ne 10, 3) := by decide +kernel
theorem dX5_joinParts_27 : decode cX5_joinParts 27 = .ok (.aload_n 0, 1) := by decide +kernel
theorem dX5_joinParts_28 : decode cX5_joinParts 28 = .ok (.getfield 57, 3) := by decide +kernel
theorem dX5_joinParts_31 : decode cX5_joinParts 31 = .ok (.iload_n 3, 1) := by decide +kernel
theorem dX5_joinParts_32 : decode cX5_joinParts 32 = .ok (.iload_n 1, 1) := by decide +kernel
theorem dX5_joinParts_33 : decode cX5_joinParts 33 = .ok (.iastore, 1) := by decide +kernel
theorem dX5_joinParts_34 : decode cX5_joinParts 34 = .ok (.iinc 3 1, 3) := by decide +kernel
theorem dX5_joinParts_37 : decode cX5_joinParts 37 = .ok (.goto (-28), 3) := by decide +kernel
theorem dX5_joinParts_40 : decode cX5_joinParts 40 = .ok (.iconst 1, 1) := by decide +kernel
theorem dX5_joinParts_41 : decode cX5_joinParts 41 = .ok (.ireturn, 1) := by decide +kernel
theorem dX5_isFlat_0 : decode cX5_isFlat 0 = .ok (.aload_n 0, 1) := by decide +kernel
theorem dX5_isFlat_1 : decode cX5_isFlat 1 = .ok (.getfield 66, 3) := by decide +kernel
theorem dX5_isFlat_4 : decode cX5_isFlat 4 = .ok (.aload_n 0, 1) := by decide +kernel
theorem dX5_isFlat_5 : decode cX5_isFlat 5 = .ok (.invokevirtual 203, 3) := by decide +kernel
theorem dX5_isFlat_8 : decode cX5_isFlat 8 = .ok (.isub, 1) := by decide +kernel
theorem dX5_isFlat_9 : decode cX5_isFlat 9 = .ok (.aload_n 0, 1) := by decide +kernel
theorem dX5_isFlat_10 : decode cX5_isFlat 10 = .ok (.invokevirtual 206, 3) := by decide +kernel
theorem dX5_isFlat_13 : decode cX5_isFlat 13 = .ok (.iadd, 1) := by decide +kernel
theorem dX5_isFlat_14 : decode cX5_isFlat 14 = .ok (.istore_n 1, 1) := by decide +kernel
theorem dX5_isFlat_15 : decode cX5_isFlat 15 = .ok (.iconst 0, 1) := by decide +kernel
theorem dX5_isFlat_16 : decode cX5_isFlat 16 = .ok (.istore_n 2, 1) := by decide +kernel
theorem dX5_isFlat_17 : decode cX5_isFlat 17 = .ok (.iload_n 2, 1) := by decide +kernel
theorem dX5_isFlat_18 : decode cX5_isFlat 18 = .ok (.aload_n 0, 1) := by decide +kernel
theorem dX5_isFlat_19 : decode cX5_isFlat 19 = .ok (.getfield 66, 3) := by decide +kernel
theorem dX5_isFlat_22 : decode cX5_isFlat 22 = .ok (.if_icmp .ge 25, 3) := by decide +kernel
theorem dX5_isFlat_25 : decode cX5_isFlat 25 = .ok (.aload_n 0, 1) := by decide +kernel
theorem dX5_isFlat_26 : decode cX5_isFlat 26 = .ok (.iload_n 2, 1) := by decide +kernel
theorem dX5_isFlat_27 : decode cX5_isFlat 27 = .ok (.invokevirtual 197, 3) := by decide +kernel
theorem dX5_isFlat_30 : decode cX5_isFlat 30 = .ok (.aload_n 0, 1) := by decide +kernel
theorem dX5_isFlat_31 : decode cX5_isFlat 31 = .ok (.iload_n 2, 1) := by decide +kernel
theorem dX5_isFlat_32 : decode cX5_isFlat 32 = .ok (.invokevirtual 209, 3) := by decide +kernel
theorem dX5_isFlat_35 : decode cX5_isFlat 35 = .ok (.if_icmp .ne 6, 3) := by decide +kernel
theorem dX5_isFlat_38 : decode cX5_isFlat 38 = .ok (.iinc 1 1, 3) := by decide +kernel
theorem dX5_isFlat_41 : decode cX5_isFlat 41 = .ok (.iinc 2 1, 3) := by decide +kernel
theorem dX5_isFlat_44 : decode cX5_isFlat 44 = .ok (.goto (-27), 3) := by decide +kernel
theorem dX5_isFlat_47 : decode cX5_isFlat 47 = .ok (.iload_n 1, 1) := by decide +kernel
theorem dX5_isFlat_48 : decode cX5_isFlat 48 = .ok (.iconst 2, 1) := by decide +kernel
theorem dX5_isFlat_49 : decode cX5_isFlat 49 = .ok (.aload_n 0, 1) := by decide +kernel
theorem dX5_isFlat_50 : decode cX5_isFlat 50 = .ok (.invokevirtual 212, 3) := by decide +kernel
theorem dX5_isFlat_53 : decode cX5_isFlat 53 = .ok (.imul, 1) := by decide +kernel
theorem dX5_isFlat_54 : decode cX5_isFlat 54 = .ok (.if_icmp .ne 7, 3) := by decide +kernel
theorem dX5_isFlat_57 : decode cX5_isFlat 57 = .ok (.iconst 1, 1) := by decide +kernel
theorem dX5_isFlat_58 : decode cX5_isFlat 58 = .ok (.goto 4, 3) := by decide +kernel
theorem dX5_isFlat_61 : decode cX5_isFlat 61 = .ok (.iconst 0, 1) := by decide +kernel
theorem dX5_isFlat_62 : decode cX5_isFlat 62 = .ok (.ireturn, 1) := by decide +kernel
theorem dX5_faces_0 : decode cX5_faces 0 = .ok (.iconst 0, 1) := by decide +kernel
theorem dX5_faces_1 : decode cX5_faces 1 = .ok (.istore_n 1, 1) := by decide +kernel
theorem dX5_faces_2 : decode cX5_faces 2 = .ok (.aload_n 0, 1) := by decide +kernel
theorem dX5_faces_3 : decode cX5_faces 3 = .ok (.getfield 45, 3) := by decide +kernel
theorem dX5_faces_6 : decode cX5_faces 6 = .ok (.iconst 0, 1) := by decide +kernel
theorem dX5_faces_7 : decode cX5_faces 7 = .ok (.aload_n 0, 1) := by decide +kernel
theorem dX5_faces_8 : decode cX5_faces 8 = .ok (.getfield 14, 3) := by decide +kernel
theorem dX5_faces_11 : decode cX5_faces 11 = .ok (.getfield 73, 3) := by decide +kernel
theorem dX5_faces_14 : decode cX5_faces 14 = .ok (.iconst 0, 1) := by decide +kernel
theorem dX5_faces_15 : decode cX5_faces 15 = .ok (.invokestatic 76, 3) := by decide +kernel
theorem dX5_faces_18 : decode cX5_faces 18 = .ok (.iconst 0, 1) := by decide +kernel
theorem dX5_faces_19 : decode cX5_faces 19 = .ok (.istore_n 2, 1) := by decide +kernel
theorem dX5_faces_20 : decode cX5_faces 20 = .ok (.iload_n 2, 1) := by decide +kernel
theorem dX5_faces_21 : decode cX5_faces 21 = .ok (.aload_n 0, 1) := by decide +kernel
theorem dX5_faces_22 : decode cX5_faces 22 = .ok (.getfield 14, 3) := by decide +kernel
theorem dX5_faces_25 : decode cX5_faces 25 = .ok (.getfield 73, 3) := by decide +kernel
theorem dX5_faces_28 : decode cX5_faces 28 = .ok (.if_icmp .ge 89, 3) := by decide +kernel
theorem dX5_faces_31 : decode cX5_faces 31 = .ok (.aload_n 0, 1) := by decide +kernel
theorem dX5_faces_32 : decode cX5_faces 32 = .ok (.getfield 14, 3) := by decide +kernel
theorem dX5_faces_35 : decode cX5_faces 35 = .ok (.getfield 139, 3) := by decide +kernel
theorem dX5_faces_38 : decode cX5_faces 38 = .ok (.iload_n 2, 1) := by decide +kernel
theorem dX5_faces_39 : decode cX5_faces 39 = .ok (.iaload, 1) := by decide +kernel
theorem dX5_faces_40 : decode cX5_faces 40 = .ok (.ifCond .lt 71, 3) := by decide +kernel
theorem dX5_faces_43 : decode cX5_faces 43 = .ok (.aload_n 0, 1) := by decide +kernel
theorem dX5_faces_44 : decode cX5_faces 44 = .ok (.getfield 45, 3) := by decide +kernel
theorem dX5_faces_47 : decode cX5_faces 47 = .ok (.iload_n 2, 1) := by decide +kernel
theorem dX5_faces_48 : decode cX5_faces 48 = .ok (.iaload, 1) := by decide +kernel
theorem dX5_faces_49 : decode cX5_faces 49 = .ok (.ifCond .eq 6, 3) := by decide +kernel
theorem dX5_faces_52 : decode cX5_faces 52 = .ok (.goto 59, 3) := by decide +kernel
theorem dX5_faces_55 : decode cX5_faces 55 = .ok (.iinc 1 1, 3) := by decide +kernel
theorem dX5_faces_58 : decode cX5_faces 58 = .ok (.iload_n 2, 1) := by decide +kernel
theorem dX5_faces_59 : decode cX5_faces 59 = .ok (.istore_n 3, 1) := by decide +kernel
theorem dX5_faces_60 : decode cX5_faces 60 = .ok (.iconst 0, 1) := by decide +kernel
theorem dX5_faces_61 : decode cX5_faces 61 = .ok (.istore 4, 2) := by decide +kernel
theorem dX5_faces_63 : decode cX5_faces 63 = .ok (.iload 4, 2) := by decide +kernel
theorem dX5_faces_65 : decode cX5_faces 65 = .ok (.aload_n 0, 1) := by decide +kernel
theorem dX5_faces_66 : decode cX5_faces 66 = .ok (.getfield 14, 3) := by decide +kernel
theorem dX5_faces_69 : decode cX5_faces 69 = .ok (.getfield 73, 3) := by decide +kernel
theorem dX5_faces_72 : decode cX5_faces 72 = .ok (.if_icmp .ge 39, 3) := by decide +kernel
theorem dX5_faces_75 : decode cX5_faces 75 = .ok (.aload_n 0, 1) := by decide +kernel
theorem dX5_faces_76 : decode cX5_faces 76 = .ok (.getfield 45, 3) := by decide +kernel
theorem dX5_faces_79 : decode cX5_faces 79 = .ok (.iload_n 3, 1) := by decide +kernel
theorem dX5_faces_80 : decode cX5_faces 80 = .ok (.iaload, 1) := by decide +kernel
theorem dX5_faces_81 : decode cX5_faces 81 = .ok (.ifCond .ne 30, 3) := by decide +kernel
theorem dX5_faces_84 : decode cX5_faces 84 = .ok (.aload_n 0, 1) := by decide +kernel
theorem dX5_faces_85 : decode cX5_faces 85 = .ok (.getfield 45, 3) := by decide +kernel
theorem dX5_faces_88 : decode cX5_faces 88 = .ok (.iload_n 3, 1) := by decide +kernel
theorem dX5_faces_89 : decode cX5_faces 89 = .ok (.iconst 1, 1) := by decide +kernel
theorem dX5_faces_90 : decode cX5_faces 90 = .ok (.iastore, 1) := by decide +kernel
theorem dX5_faces_91 : decode cX5_faces 91 = .ok (.aload_n 0, 1) := by decide +kernel
theorem dX5_faces_92 : decode cX5_faces 92 = .ok (.aload_n 0, 1) := by decide +kernel
theorem dX5_faces_93 : decode cX5_faces 93 = .ok (.getfield 14, 3) := by decide +kernel
theorem dX5_faces_96 : decode cX5_faces 96 = .ok (.getfield 139, 3) := by decide +kernel
theorem dX5_faces_99 : decode cX5_faces 99 = .ok (.iload_n 3, 1) := by decide +kernel
theorem dX5_faces_100 : decode cX5_faces 100 = .ok (.iaload, 1) := by decide +kernel
theorem dX5_faces_101 : decode cX5_faces 101 = .ok (.invokevirtual 215, 3) := by decide +kernel
theorem dX5_faces_104 : decode cX5_faces 104 = .ok (.istore_n 3, 1) := by decide +kernel
theorem dX5_faces_105 : decode cX5_faces 105 = .ok (.iinc 4 1, 3) := by decide +kernel
theorem dX5_faces_108 : decode cX5_faces 108 = .ok (.goto (-45), 3) := by decide +kernel
theorem dX5_faces_111 : decode cX5_faces 111 = .ok (.iinc 2 1, 3) := by decide +kernel
theorem dX5_faces_114 : decode cX5_faces 114 = .ok (.goto (-94), 3) := by decide +kernel
theorem dX5_faces_117 : decode cX5_faces 117 = .ok (.iload_n 1, 1) := by decide +kernel
theorem dX5_faces_118 : decode cX5_faces 118 = .ok (.ireturn, 1) := by decide +kernel
theorem dX5_nextLane_0 : decode cX5_nextLane 0 = .ok (.aload_n 0, 1) := by decide +kernel
theorem dX5_nextLane_1 : decode cX5_nextLane 1 = .ok (.getfield 14, 3) := by decide +kernel
theorem dX5_nextLane_4 : decode cX5_nextLane 4 = .ok (.getfield 107, 3) := by decide +kernel
theorem dX5_nextLane_7 : decode cX5_nextLane 7 = .ok (.iload_n 1, 1) := by decide +kernel
theorem dX5_nextLane_8 : decode cX5_nextLane 8 = .ok (.iaload, 1) := by decide +kernel
theorem dX5_nextLane_9 : decode cX5_nextLane 9 = .ok (.istore_n 2, 1) := by decide +kernel
theorem dX5_nextLane_10 : decode cX5_nextLane 10 = .ok (.iload_n 1, 1) := by decide +kernel
theorem dX5_nextLane_11 : decode cX5_nextLane 11 = .ok (.istore_n 3, 1) := by decide +kernel
theorem dX5_nextLane_12 : decode cX5_nextLane 12 = .ok (.iconst 0, 1) := by decide +kernel
theorem dX5_nextLane_13 : decode cX5_nextLane 13 = .ok (.istore 4, 2) := by decide +kernel
theorem dX5_nextLane_15 : decode cX5_nextLane 15 = .ok (.iload 4, 2) := by decide +kernel
theorem dX5_nextLane_17 : decode cX5_nextLane 17 = .ok (.aload_n 0, 1) := by decide +kernel
theorem dX5_nextLane_18 : decode cX5_nextLane 18 = .ok (.iload_n 2, 1) := by decide +kernel
theorem dX5_nextLane_19 : decode cX5_nextLane 19 = .ok (.invokevirtual 209, 3) := by decide +kernel
theorem dX5_nextLane_22 : decode cX5_nextLane 22 = .ok (.if_icmp .ge 50, 3) := by decide +kernel
theorem dX5_nextLane_25 : decode cX5_nextLane 25 = .ok (.iload_n 3, 1) := by decide +kernel
theorem dX5_nextLane_26 : decode cX5_nextLane 26 = .ok (.iconst 1, 1) := by decide +kernel
theorem dX5_nextLane_27 : decode cX5_nextLane 27 = .ok (.iadd, 1) := by decide +kernel
theorem dX5_nextLane_28 : decode cX5_nextLane 28 = .ok (.aload_n 0, 1) := by decide +kernel
theorem dX5_nextLane_29 : decode cX5_nextLane 29 = .ok (.getfield 29, 3) := by decide +kernel
theorem dX5_nextLane_32 : decode cX5_nextLane 32 = .ok (.iload_n 2, 1) := by decide +kernel
theorem dX5_nextLane_33 : decode cX5_nextLane 33 = .ok (.iconst 1, 1) := by decide +kernel
theorem dX5_nextLane_34 : decode cX5_nextLane 34 = .ok (.iadd, 1) := by decide +kernel
theorem dX5_nextLane_35 : decode cX5_nextLane 35 = .ok (.iaload, 1) := by decide +kernel
theorem dX5_nextLane_36 : decode cX5_nextLane 36 = .ok (.if_icmp .ge 9, 3) := by decide +kernel
theorem dX5_nextLane_39 : decode cX5_nextLane 39 = .ok (.iload_n 3, 1) := by decide +kernel
theorem dX5_nextLane_40 : decode cX5_nextLane 40 = .ok (.iconst 1, 1) := by decide +kernel
theorem dX5_nextLane_41 : decode cX5_nextLane 41 = .ok (.iadd, 1) := by decide +kernel
theorem dX5_nextLane_42 : decode cX5_nextLane 42 = .ok (.goto 9, 3) := by decide +kernel
theorem dX5_nextLane_45 : decode cX5_nextLane 45 = .ok (.aload_n 0, 1) := by decide +kernel
theorem dX5_nextLane_46 : decode cX5_nextLane 46 = .ok (.getfield 29, 3) := by decide +kernel
theorem dX5_nextLane_49 : decode cX5_nextLane 49 = .ok (.iload_n 2, 1) := by decide +kernel
theorem dX5_nextLane_50 : decode cX5_nextLane 50 = .ok (.iaload, 1) := by decide +kernel
theorem dX5_nextLane_51 : decode cX5_nextLane 51 = .ok (.istore_n 3, 1) := by decide +kernel
theorem dX5_nextLane_52 : decode cX5_nextLane 52 = .ok (.aload_n 0, 1) := by decide +kernel
theorem dX5_nextLane_53 : decode cX5_nextLane 53 = .ok (.getfield 14, 3) := by decide +kernel
theorem dX5_nextLane_56 : decode cX5_nextLane 56 = .ok (.getfield 139, 3) := by decide +kernel
theorem dX5_nextLane_59 : decode cX5_nextLane 59 = .ok (.iload_n 3, 1) := by decide +kernel
theorem dX5_nextLane_60 : decode cX5_nextLane 60 = .ok (.iaload, 1) := by decide +kernel
theorem dX5_nextLane_61 : decode cX5_nextLane 61 = .ok (.ifCond .lt 5, 3) := by decide +kernel
theorem dX5_nextLane_64 : decode cX5_nextLane 64 = .ok (.iload_n 3, 1) := by decide +kernel
theorem dX5_nextLane_65 : decode cX5_nextLane 65 = .ok (.ireturn, 1) := by decide +kernel
theorem dX5_nextLane_66 : decode cX5_nextLane 66 = .ok (.iinc 4 1, 3) := by decide +kernel
theorem dX5_nextLane_69 : decode cX5_nextLane 69 = .ok (.goto (-54), 3) := by decide +kernel
theorem dX5_nextLane_72 : decode cX5_nextLane 72 = .ok (.iload_n 1, 1) := by decide +kernel
theorem dX5_nextLane_73 : decode cX5_nextLane 73 = .ok (.ireturn, 1) := by decide +kernel
theorem dX5_turned_0 : decode cX5_turned 0 = .ok (.iload_n 1, 1) := by decide +kernel
theorem dX5_turned_1 : decode cX5_turned 1 = .ok (.istore_n 3, 1) := by decide +kernel
theorem dX5_turned_2 : decode cX5_turned 2 = .ok (.iconst 0, 1) := by decide +kernel
theorem dX5_turned_3 : decode cX5_turned 3 = .ok (.istore 4, 2) := by decide +kernel
theorem dX5_turned_5 : decode cX5_turned 5 = .ok (.iload 4, 2) := by decide +kernel
theorem dX5_turned_7 : decode cX5_turned 7 = .ok (.iload_n 2, 1) := by decide +kernel
theorem dX5_turned_8 : decode cX5_turned 8 = .ok (.if_icmp .ge 23, 3) := by decide +kernel
theorem dX5_turned_11 : decode cX5_turned 11 = .ok (.iload_n 3, 1) := by decide +kernel
theorem dX5_turned_12 : decode cX5_turned 12 = .ok (.ifCond .lt 19, 3) := by decide +kernel
theorem dX5_turned_15 : decode cX5_turned 15 = .ok (.aload_n 0, 1) := by decide +kernel
theorem dX5_turned_16 : decode cX5_turned 16 = .ok (.getfield 14, 3) := by decide +kernel
theorem dX5_turned_19 : decode cX5_turned 19 = .ok (.getfield 133, 3) := by decide +kernel
theorem dX5_turned_22 : decode cX5_turned 22 = .ok (.iload_n 3, 1) := by decide +kernel
theorem dX5_turned_23 : decode cX5_turned 23 = .ok (.iaload, 1) := by decide +kernel
theorem dX5_turned_24 : decode cX5_turned 24 = .ok (.istore_n 3, 1) := by decide +kernel
theorem dX5_turned_25 : decode cX5_turned 25 = .ok (.iinc 4 1, 3) := by decide +kernel
theorem dX5_turned_28 : decode cX5_turned 28 = .ok (.goto (-23), 3) := by decide +kernel
theorem dX5_turned_31 : decode cX5_turned 31 = .ok (.iload_n 3, 1) := by decide +kernel
theorem dX5_turned_32 : decode cX5_turned 32 = .ok (.ifCond .lt 12, 3) := by decide +kernel
theorem dX5_turned_35 : decode cX5_turned 35 = .ok (.iload_n 2, 1) := by decide +kernel
theorem dX5_turned_36 : decode cX5_turned 36 = .ok (.ifCond .le 10, 3) := by decide +kernel
theorem dX5_turned_39 : decode cX5_turned 39 = .ok (.iload_n 3, 1) := by decide +kernel
theorem dX5_turned_40 : decode cX5_turned 40 = .ok (.iload_n 1, 1) := by decide +kernel
theorem dX5_turned_41 : decode cX5_turned 41 = .ok (.if_icmp .ne 5, 3) := by decide +kernel
theorem dX5_turned_44 : decode cX5_turned 44 = .ok (.iconst (-1), 1) := by decide +kernel
theorem dX5_turned_45 : decode cX5_turned 45 = .ok (.ireturn, 1) := by decide +kernel
theorem dX5_turned_46 : decode cX5_turned 46 = .ok (.aload_n 0, 1) := by decide +kernel
theorem dX5_turned_47 : decode cX5_turned 47 = .ok (.getfield 14, 3) := by decide +kernel
theorem dX5_turned_50 : decode cX5_turned 50 = .ok (.getfield 139, 3) := by decide +kernel
theorem dX5_turned_53 : decode cX5_turned 53 = .ok (.iload_n 3, 1) := by decide +kernel
theorem dX5_turned_54 : decode cX5_turned 54 = .ok (.iaload, 1) := by decide +kernel
theorem dX5_turned_55 : decode cX5_turned 55 = .ok (.ireturn, 1) := by decide +kernel
theorem dX5_findWay_0 : decode cX5_findWay 0 = .ok (.aload_n 0, 1) := by decide +kernel
theorem dX5_findWay_1 : decode cX5_findWay 1 = .ok (.getfield 54, 3) := by decide +kernel
theorem dX5_findWay_4 : decode cX5_findWay 4 = .ok (.iconst 0, 1) := by decide +kernel
theorem dX5_findWay_5 : decode cX5_findWay 5 = .ok (.aload_n 0, 1) := by decide +kernel
theorem dX5_findWay_6 : decode cX5_findWay 6 = .ok (.getfield 14, 3) := by decide +kernel
theorem dX5_findWay_9 : decode cX5_findWay 9 = .ok (.getfield 73, 3) := by decide +kernel
theorem dX5_findWay_12 : decode cX5_findWay 12 = .ok (.iconst (-1), 1) := by decide +kernel
theorem dX5_findWay_13 : decode cX5_findWay 13 = .ok (.invokestatic 76, 3) := by decide +kernel
theorem dX5_findWay_16 : decode cX5_findWay 16 = .ok (.aload_n 0, 1) := by decide +kernel
theorem dX5_findWay_17 : decode cX5_findWay 17 = .ok (.getfield 54, 3) := by decide +kernel
theorem dX5_findWay_20 : decode cX5_findWay 20 = .ok (.iload_n 1, 1) := by decide +kernel
theorem dX5_findWay_21 : decode cX5_findWay 21 = .ok (.iconst 0, 1) := by decide +kernel
theorem dX5_findWay_22 : decode cX5_findWay 22 = .ok (.iastore, 1) := by decide +kernel
theorem dX5_findWay_23 : decode cX5_findWay 23 = .ok (.aload_n 0, 1) := by decide +kernel
theorem dX5_findWay_24 : decode cX5_findWay 24 = .ok (.getfield 45, 3) := by decide +kernel
theorem dX5_findWay_27 : decode cX5_findWay 27 = .ok (.iconst 0, 1) := by decide +kernel
theorem dX5_findWay_28 : decode cX5_findWay 28 = .ok (.iload_n 1, 1) := by decide +kernel
theorem dX5_findWay_29 : decode cX5_findWay 29 = .ok (.iastore, 1) := by decide +kernel
theorem dX5_findWay_30 : decode cX5_findWay 30 = .ok (.iconst 1, 1) := by decide +kernel
theorem dX5_findWay_31 : decode cX5_findWay 31 = .ok (.istore_n 3, 1) := by decide +kernel
theorem dX5_findWay_32 : decode cX5_findWay 32 = .ok (.iconst 0, 1) := by decide +kernel
theorem dX5_findWay_33 : decode cX5_findWay 33 = .ok (.istore 4, 2) := by decide +kernel
theorem dX5_findWay_35 : decode cX5_findWay 35 = .ok (.iload 4, 2) := by decide +kernel
theorem dX5_findWay_37 : decode cX5_findWay 37 = .ok (.iload_n 3, 1) := by decide +kernel
theorem dX5_findWay_38 : decode cX5_findWay 38 = .ok (.if_icmp .ge 135, 3) := by decide +kernel
theorem dX5_findWay_41 : decode cX5_findWay 41 = .ok (.iload 4, 2) := by decide +kernel
theorem dX5_findWay_43 : decode cX5_findWay 43 = .ok (.sipush 200, 3) := by decide +kernel
theorem dX5_findWay_46 : decode cX5_findWay 46 = .ok (.if_icmp .ge 127, 3) := by decide +kernel
theorem dX5_findWay_49 : decode cX5_findWay 49 = .ok (.aload_n 0, 1) := by decide +kernel
theorem dX5_findWay_50 : decode cX5_findWay 50 = .ok (.getfield 45, 3) := by decide +kernel
theorem dX5_findWay_53 : decode cX5_findWay 53 = .ok (.iload 4, 2) := by decide +kernel
theorem dX5_findWay_55 : decode cX5_findWay 55 = .ok (.iaload, 1) := by decide +kernel
theorem dX5_findWay_56 : decode cX5_findWay 56 = .ok (.istore 5, 2) := by decide +kernel
theorem dX5_findWay_58 : decode cX5_findWay 58 = .ok (.aload_n 0, 1) := by decide +kernel
theorem dX5_findWay_59 : decode cX5_findWay 59 = .ok (.getfield 14, 3) := by decide +kernel
theorem dX5_findWay_62 : decode cX5_findWay 62 = .ok (.getfield 107, 3) := by decide +kernel
theorem dX5_findWay_65 : decode cX5_findWay 65 = .ok (.iload 5, 2) := by decide +kernel
theorem dX5_findWay_67 : decode cX5_findWay 67 = .ok (.iaload, 1) := by decide +kernel
theorem dX5_findWay_68 : decode cX5_findWay 68 = .ok (.iload_n 2, 1) := by decide +kernel
theorem dX5_findWay_69 : decode cX5_findWay 69 = .ok (.if_icmp .ne 6, 3) := by decide +kernel
theorem dX5_findWay_72 : decode cX5_findWay 72 = .ok (.iload 5, 2) := by decide +kernel
theorem dX5_findWay_74 : decode cX5_findWay 74 = .ok (.ireturn, 1) := by decide +kernel
theorem dX5_findWay_75 : decode cX5_findWay 75 = .ok (.iconst 1, 1) := by decide +kernel
theorem dX5_findWay_76 : decode cX5_findWay 76 = .ok (.istore 6, 2) := by decide +kernel
theorem dX5_findWay_78 : decode cX5_findWay 78 = .ok (.iload 6, 2) := by decide +kernel
theorem dX5_findWay_80 : decode cX5_findWay 80 = .ok (.iconst 5, 1) := by decide +kernel
theorem dX5_findWay_81 : decode cX5_findWay 81 = .ok (.if_icmp .gt 86, 3) := by decide +kernel
theorem dX5_findWay_84 : decode cX5_findWay 84 = .ok (.aload_n 0, 1) := by decide +kernel
theorem dX5_findWay_85 : decode cX5_findWay 85 = .ok (.iload 5, 2) := by decide +kernel
theorem dX5_findWay_87 : decode cX5_findWay 87 = .ok (.iload 6, 2) := by decide +kernel
theorem dX5_findWay_89 : decode cX5_findWay 89 = .ok (.invokevirtual 218, 3) := by decide +kernel
theorem dX5_findWay_92 : decode cX5_findWay 92 = .ok (.istore 7, 2) := by decide +kernel
theorem dX5_findWay_94 : decode cX5_findWay 94 = .ok (.iload 7, 2) := by decide +kernel
theorem dX5_findWay_96 : decode cX5_findWay 96 = .ok (.ifCond .lt 65, 3) := by decide +kernel
theorem dX5_findWay_99 : decode cX5_findWay 99 = .ok (.aload_n 0, 1) := by decide +kernel
theorem dX5_findWay_100 : decode cX5_findWay 100 = .ok (.getfield 54, 3) := by decide +kernel
theorem dX5_findWay_103 : decode cX5_findWay 103 = .ok (.iload 7, 2) := by decide +kernel
theorem dX5_findWay_105 : decode cX5_findWay 105 = .ok (.iaload, 1) := by decide +kernel
theorem dX5_findWay_106 : decode cX5_findWay 106 = .ok (.ifCond .ge 55, 3) := by decide +kernel
theorem dX5_findWay_109 : decode cX5_findWay 109 = .ok (.iload_n 3, 1) := by decide +kernel
theorem dX5_findWay_110 : decode cX5_findWay 110 = .ok (.sipush 200, 3) := by decide +kernel
theorem dX5_findWay_113 : decode cX5_findWay 113 = .ok (.if_icmp .ge 48, 3) := by decide +kernel
theorem dX5_findWay_116 : decode cX5_findWay 116 = .ok (.aload_n 0, 1) := by decide +kernel
theorem dX5_findWay_117 : decode cX5_findWay 117 = .ok (.getfield 54, 3) := by decide +kernel
theorem dX5_findWay_120 : decode cX5_findWay 120 = .ok (.iload 7, 2) := by decide +kernel
theorem dX5_findWay_122 : decode cX5_findWay 122 = .ok (.aload_n 0, 1) := by decide +kernel
theorem dX5_findWay_123 : decode cX5_findWay 123 = .ok (.getfield 54, 3) := by decide +kernel
theorem dX5_findWay_126 : decode cX5_findWay 126 = .ok (.iload 5, 2) := by decide +kernel
theorem dX5_findWay_128 : decode cX5_findWay 128 = .ok (.iaload, 1) := by decide +kernel
theorem dX5_findWay_129 : decode cX5_findWay 129 = .ok (.iconst 1, 1) := by decide +kernel
theorem dX5_findWay_130 : decode cX5_findWay 130 = .ok (.iadd, 1) := by decide +kernel
theorem dX5_findWay_131 : decode cX5_findWay 131 = .ok (.iastore, 1) := by decide +kernel
theorem dX5_findWay_132 : decode cX5_findWay 132 = .ok (.aload_n 0, 1) := by decide +kernel
theorem dX5_findWay_133 : decode cX5_findWay 133 = .ok (.getfield 48, 3) := by decide +kernel
theorem dX5_findWay_136 : decode cX5_findWay 136 = .ok (.iload 7, 2) := by decide +kernel
theorem dX5_findWay_138 : decode cX5_findWay 138 = .ok (.iload 5, 2) := by decide +kernel
theorem dX5_findWay_140 : decode cX5_findWay 140 = .ok (.iastore, 1) := by decide +kernel
theorem dX5_findWay_141 : decode cX5_findWay 141 = .ok (.aload_n 0, 1) := by decide +kernel
theorem dX5_findWay_142 : decode cX5_findWay 142 = .ok (.getfield 51, 3) := by decide +kernel
theorem dX5_findWay_145 : decode cX5_findWay 145 = .ok (.iload 7, 2) := by decide +kernel
theorem dX5_findWay_147 : decode cX5_findWay 147 = .ok (.iload 6, 2) := by decide +kernel
theorem dX5_findWay_149 : decode cX5_findWay 149 = .ok (.iastore, 1) := by decide +kernel
theorem dX5_findWay_150 : decode cX5_findWay 150 = .ok (.aload_n 0, 1) := by decide +kernel
theorem dX5_findWay_151 : decode cX5_findWay 151 = .ok (.getfield 45, 3) := by decide +kernel
theorem dX5_findWay_154 : decode cX5_findWay 154 = .ok (.iload_n 3, 1) := by decide +kernel
theorem dX5_findWay_155 : decode cX5_findWay 155 = .ok (.iload 7, 2) := by decide +kernel
theorem dX5_findWay_157 : decode cX5_findWay 157 = .ok (.iastore, 1) := by decide +kernel
theorem dX5_findWay_158 : decode cX5_findWay 158 = .ok (.iinc 3 1, 3) := by decide +kernel
theorem dX5_findWay_161 : decode cX5_findWay 161 = .ok (.iinc 6 1, 3) := by decide +kernel
theorem dX5_findWay_164 : decode cX5_findWay 164 = .ok (.goto (-86), 3) := by decide +kernel
theorem dX5_findWay_167 : decode cX5_findWay 167 = .ok (.iinc 4 1, 3) := by decide +kernel
theorem dX5_findWay_170 : decode cX5_findWay 170 = .ok (.goto (-135), 3) := by decide +kernel
theorem dX5_findWay_173 : decode cX5_findWay 173 = .ok (.iconst (-1), 1) := by decide +kernel
theorem dX5_findWay_174 : decode cX5_findWay 174 = .ok (.ireturn, 1) := by decide +kernel
theorem dX5_turningOfWay_0 : decode cX5_turningOfWay 0 = .ok (.iload_n 1, 1) := by decide +kernel
theorem dX5_turningOfWay_1 : decode cX5_turningOfWay 1 = .ok (.istore_n 3, 1) := by decide +kernel
theorem dX5_turningOfWay_2 : decode cX5_turningOfWay 2 = .ok (.iconst 0, 1) := by decide +kernel
theorem dX5_turningOfWay_3 : decode cX5_turningOfWay 3 = .ok (.istore 4, 2) := by decide +kernel
theorem dX5_turningOfWay_5 : decode cX5_turningOfWay 5 = .ok (.iload 4, 2) := by decide +kernel
theorem dX5_turningOfWay_7 : decode cX5_turningOfWay 7 = .ok (.iload_n 2, 1) := by decide +kernel
theorem dX5_turningOfWay_8 : decode cX5_turningOfWay 8 = .ok (.if_icmp .ge 16, 3) := by decide +kernel
theorem dX5_turningOfWay_11 : decode cX5_turningOfWay 11 = .ok (.aload_n 0, 1) := by decide +kernel
theorem dX5_turningOfWay_12 : decode cX5_turningOfWay 12 = .ok (.getfield 48, 3) := by decide +kernel
theorem dX5_turningOfWay_15 : decode cX5_turningOfWay 15 = .ok (.iload_n 3, 1) := by decide +kernel
theorem dX5_turningOfWay_16 : decode cX5_turningOfWay 16 = .ok (.iaload, 1) := by decide +kernel
theorem dX5_turningOfWay_17 : decode cX5_turningOfWay 17 = .ok (.istore_n 3, 1) := by decide +kernel
theorem dX5_turningOfWay_18 : decode cX5_turningOfWay 18 = .ok (.iinc 4 1, 3) := by decide +kernel
theorem dX5_turningOfWay_21 : decode cX5_turningOfWay 21 = .ok (.goto (-16), 3) := by decide +kernel
theorem dX5_turningOfWay_24 : decode cX5_turningOfWay 24 = .ok (.aload_n 0, 1) := by decide +kernel
theorem dX5_turningOfWay_25 : decode cX5_turningOfWay 25 = .ok (.getfield 51, 3) := by decide +kernel
theorem dX5_turningOfWay_28 : decode cX5_turningOfWay 28 = .ok (.iload_n 3, 1) := by decide +kernel
theorem dX5_turningOfWay_29 : decode cX5_turningOfWay 29 = .ok (.iaload, 1) := by decide +kernel
theorem dX5_turningOfWay_30 : decode cX5_turningOfWay 30 = .ok (.ireturn, 1) := by decide +kernel
theorem dX6_init_0 : decode cX6_init 0 = .ok (.aload_n 0, 1) := by decide +kernel
theorem dX6_init_1 : decode cX6_init 1 = .ok (.invokespecial 3, 3) := by decide +kernel
theorem dX6_init_4 : decode cX6_init 4 = .ok (.aload_n 0, 1) := by decide +kernel
theorem dX6_init_5 : decode cX6_init 5 = .ok (.new 9, 3) := by decide +kernel
theorem dX6_init_8 : decode cX6_init 8 = .ok (.dup, 1) := by decide +kernel
theorem dX6_init_9 : decode cX6_init 9 = .ok (.invokespecial 11, 3) := by decide +kernel
theorem dX6_init_12 : decode cX6_init 12 = .ok (.putfield 12, 3) := by decide +kernel
theorem dX6_init_15 : decode cX6_init 15 = .ok (.aload_n 0, 1) := by decide +kernel
theorem dX6_init_16 : decode cX6_init 16 = .ok (.new 9, 3) := by decide +kernel
theorem dX6_init_19 : decode cX6_init 19 = .ok (.dup, 1) := by decide +kernel
theorem dX6_init_20 : decode cX6_init 20 = .ok (.invokespecial 11, 3) := by decide +kernel
theorem dX6_init_23 : decode cX6_init 23 = .ok (.putfield 16, 3) := by decide +kernel
theorem dX6_init_26 : decode cX6_init 26 = .ok (.aload_n 0, 1) := by decide +kernel
theorem dX6_init_27 : decode cX6_init 27 = .ok (.iconst 2, 1) := by decide +kernel
theorem dX6_init_28 : decode cX6_init 28 = .ok (.anewarray 9, 3) := by decide +kernel
theorem dX6_init_31 : decode cX6_init 31 = .ok (.putfield 19, 3) := by decide +kernel
theorem dX6_init_34 : decode cX6_init 34 = .ok (.aload_n 0, 1) := by decide +kernel
theorem dX6_init_35 : decode cX6_init 35 = .ok (.iconst 2, 1) := by decide +kernel
theorem dX6_init_36 : decode cX6_init 36 = .ok (.newarray .int, 2) := by decide +kernel
theorem dX6_init_38 : decode cX6_init 38 = .ok (.putfield 23, 3) := by decide +kernel
theorem dX6_init_41 : decode cX6_init 41 = .ok (.aload_n 0, 1) := by decide +kernel
theorem dX6_init_42 : decode cX6_init 42 = .ok (.bipush 9, 2) := by decide +kernel
theorem dX6_init_44 : decode cX6_init 44 = .ok (.newarray .int, 2) := by decide +kernel
theorem dX6_init_46 : decode cX6_init 46 = .ok (.putfield 27, 3) := by decide +kernel
theorem dX6_init_49 : decode cX6_init 49 = .ok (.aload_n 0, 1) := by decide +kernel
theorem dX6_init_50 : decode cX6_init 50 = .ok (.new 30, 3) := by decide +kernel
theorem dX6_init_53 : decode cX6_init 53 = .ok (.dup, 1) := by decide +kernel
theorem dX6_init_54 : decode cX6_init 54 = .ok (.invokespecial 32, 3) := by decide +kernel
theorem dX6_init_57 : decode cX6_init 57 = .ok (.putfield 33, 3) := by decide +kernel
theorem dX6_init_60 : decode cX6_init 60 = .ok (.aload_n 0, 1) := by decide +kernel
theorem dX6_init_61 : decode cX6_init 61 = .ok (.new 37, 3) := by decide +kernel
theorem dX6_init_64 : decode cX6_init 64 = .ok (.dup, 1) := by decide +kernel
theorem dX6_init_65 : decode cX6_init 65 = .ok (.invokespecial 39, 3) := by decide +kernel
theorem dX6_init_68 : decode cX6_init 68 = .ok (.putfield 40, 3) := by decide +kernel
theorem dX6_init_71 : decode cX6_init 71 = .ok (.aload_n 0, 1) := by decide +kernel
theorem dX6_init_72 : decode cX6_init 72 = .ok (.new 44, 3) := by decide +kernel
theorem dX6_init_75 : decode cX6_init 75 = .ok (.dup, 1) := by decide +kernel
theorem dX6_init_76 : decode cX6_init 76 = .ok (.aload_n 0, 1) := by decide +kernel
theorem dX6_init_77 : decode cX6_init 77 = .ok (.getfield 40, 3) := by decide +kernel
theorem dX6_init_80 : decode cX6_init 80 = .ok (.invokespecial 46, 3) := by decide +kernel
theorem dX6_init_83 : decode cX6_init 83 = .ok (.putfield 49, 3) := by decide +kernel
theorem dX6_init_86 : decode cX6_init 86 = .ok (.iconst 0, 1) := by decide +kernel
theorem dX6_init_87 : decode cX6_init 87 = .ok (.istore_n 1, 1) := by decide +kernel
theorem dX6_init_88 : decode cX6_init 88 = .ok (.iload_n 1, 1) := by decide +kernel
theorem dX6_init_89 : decode cX6_init 89 = .ok (.iconst 2, 1) := by decide +kernel
theorem dX6_init_90 : decode cX6_init 90 = .ok (.if_icmp .ge 22, 3) := by decide +kernel
theorem dX6_init_93 : decode cX6_init 93 = .ok (.aload_n 0, 1) := by decide +kernel
theorem dX6_init_94 : decode cX6_init 94 = .ok (.getfield 19, 3) := by decide +kernel
theorem dX6_init_97 : decode cX6_init 97 = .ok (.iload_n 1, 1) := by decide +kernel
theorem dX6_init_98 : decode cX6_init 98 = .ok (.new 9, 3) := by decide +kernel
theorem dX6_init_101 : decode cX6_init 101 = .ok (.dup, 1) := by decide +kernel
theorem dX6_init_102 : decode cX6_init 102 = .ok (.invokespecial 11, 3) := by decide +kernel
theorem dX6_init_105 : decode cX6_init 105 = .ok (.aastore, 1) := by decide +kernel
theorem dX6_init_106 : decode cX6_init 106 = .ok (.iinc 1 1, 3) := by decide +kernel
theorem dX6_init_109 : decode cX6_init 109 = .ok (.goto (-21), 3) := by decide +kernel
theorem dX6_init_112 : decode cX6_init 112 = .ok (.aload_n 0, 1) := by decide +kernel
theorem dX6_init_113 : decode cX6_init 113 = .ok (.iconst (-1), 1) := by decide +kernel
theorem dX6_init_114 : decode cX6_init 114 = .ok (.putfield 53, 3) := by decide +kernel
theorem dX6_init_117 : decode cX6_init 117 = .ok (.return_, 1) := by decide +kernel
theorem dX6_write_0 : decode cX6_write 0 = .ok (.iload_n 1, 1) := by decide +kernel
theorem dX6_write_1 : decode cX6_write 1 = .ok (.iconst 1, 1) := by decide +kernel
theorem dX6_write_2 : decode cX6_write 2 = .ok (.if_icmp .lt 9, 3) := by decide +kernel
theorem dX6_write_5 : decode cX6_write 5 = .ok (.iload_n 1, 1) := by decide +kernel
theorem dX6_write_6 : decode cX6_write 6 = .ok (.bipush 8, 2) := by decide +kernel
theorem dX6_write_8 : decode cX6_write 8 = .ok (.if_icmp .le 5, 3) := by decide +kernel
theorem dX6_write_11 : decode cX6_write 11 = .ok (.iconst (-1), 1) := by decide +kernel
theorem dX6_write_12 : decode cX6_write 12 = .ok (.ireturn, 1) := by decide +kernel
theorem dX6_write_13 : decode cX6_write 13 = .ok (.aload_n 0, 1) := by decide +kernel
theorem dX6_write_14 : decode cX6_write 14 = .ok (.getfield 12, 3) := by decide +kernel
theorem dX6_write_17 : decode cX6_write 17 = .ok (.getfield 57, 3) := by decide +kernel
theorem dX6_write_20 : decode cX6_write 20 = .ok (.iload_n 1, 1) := by decide +kernel
theorem dX6_write_21 : decode cX6_write 21 = .ok (.iadd, 1) := by decide +kernel
theorem dX6_write_22 : decode cX6_write 22 = .ok (.sipush 300, 3) := by decide +kernel
theorem dX6_write_25 : decode cX6_write 25 = .ok (.if_icmp .le 6, 3) := by decide +kernel
theorem dX6_write_28 : decode cX6_write 28 = .ok (.bipush (-3), 2) := by decide +kernel
theorem dX6_write_30 : decode cX6_write 30 = .ok (.ireturn, 1) := by decide +kernel
theorem dX6_write_31 : decode cX6_write 31 = .ok (.bipush 8, 2) := by decide +kernel
theorem dX6_write_33 : decode cX6_write 33 = .ok (.iload_n 1, 1) := by decide +kernel
theorem dX6_write_34 : decode cX6_write 34 = .ok (.iconst 1, 1) := by decide +kernel
theorem dX6_write_35 : decode cX6_write 35 = .ok (.isub, 1) := by decide +kernel
theorem dX6_write_36 : decode cX6_write 36 = .ok (.imul, 1) := by decide +kernel
theorem dX6_write_37 : decode cX6_write 37 = .ok (.istore 4, 2) := by decide +kernel
theorem dX6_write_39 : decode cX6_write 39 = .ok (.iload 4, 2) := by decide +kernel
theorem dX6_write_41 : decode cX6_write 41 = .ok (.ifCond .lt 22, 3) := by decide +kernel
theorem dX6_write_44 : decode cX6_write 44 = .ok (.aload_n 0, 1) := by decide +kernel
theorem dX6_write_45 : decode cX6_write 45 = .ok (.getfield 12, 3) := by decide +kernel
theorem dX6_write_48 : decode cX6_write 48 = .ok (.lload_n 2, 1) := by decide +kernel
theorem dX6_write_49 : decode cX6_write 49 = .ok (.iload 4, 2) := by decide +kernel
theorem dX6_write_51 : decode cX6_write 51 = .ok (.lshr, 1) := by decide +kernel
theorem dX6_write_52 : decode cX6_write 52 = .ok (.l2i, 1) := by decide +kernel
theorem dX6_write_53 : decode cX6_write 53 = .ok (.i2b, 1) := by decide +kernel
theorem dX6_write_54 : decode cX6_write 54 = .ok (.invokevirtual 60, 3) := by decide +kernel
theorem dX6_write_57 : decode cX6_write 57 = .ok (.iinc 4 (-8), 3) := by decide +kernel
theorem dX6_write_60 : decode cX6_write 60 = .ok (.goto (-21), 3) := by decide +kernel
theorem dX6_write_63 : decode cX6_write 63 = .ok (.aload_n 0, 1) := by decide +kernel
theorem dX6_write_64 : decode cX6_write 64 = .ok (.getfield 12, 3) := by decide +kernel
theorem dX6_write_67 : decode cX6_write 67 = .ok (.getfield 57, 3) := by decide +kernel
theorem dX6_write_70 : decode cX6_write 70 = .ok (.ireturn, 1) := by decide +kernel
theorem dX6_wipe_0 : decode cX6_wipe 0 = .ok (.aload_n 0, 1) := by decide +kernel
theorem dX6_wipe_1 : decode cX6_wipe 1 = .ok (.getfield 12, 3) := by decide +kernel
theorem dX6_wipe_4 : decode cX6_wipe 4 = .ok (.getfield 57, 3) := by decide +kernel
theorem dX6_wipe_7 : decode cX6_wipe 7 = .ok (.istore_n 1, 1) := by decide +kernel
theorem dX6_wipe_8 : decode cX6_wipe 8 = .ok (.aload_n 0, 1) := by decide +kernel
theorem dX6_wipe_9 : decode cX6_wipe 9 = .ok (.getfield 12, 3) := by decide +kernel
theorem dX6_wipe_12 : decode cX6_wipe 12 = .ok (.iconst 0, 1) := by decide +kernel
theorem dX6_wipe_13 : decode cX6_wipe 13 = .ok (.putfield 57, 3) := by decide +kernel
theorem dX6_wipe_16 : decode cX6_wipe 16 = .ok (.iload_n 1, 1) := by decide +kernel
theorem dX6_wipe_17 : decode cX6_wipe 17 = .ok (.ireturn, 1) := by decide +kernel
theorem dX6_fault_0 : decode cX6_fault 0 = .ok (.aload_n 0, 1) := by decide +kernel
theorem dX6_fault_1 : decode cX6_fault 1 = .ok (.getfield 12, 3) := by decide +kernel
theorem dX6_fault_4 : decode cX6_fault 4 = .ok (.invokevirtual 64, 3) := by decide +kernel
theorem dX6_fault_7 : decode cX6_fault 7 = .ok (.ireturn, 1) := by decide +kernel
theorem dX6_lay_0 : decode cX6_lay 0 = .ok (.aload_n 0, 1) := by decide +kernel
theorem dX6_lay_1 : decode cX6_lay 1 = .ok (.getfield 12, 3) := by decide +kernel
theorem dX6_lay_4 : decode cX6_lay 4 = .ok (.invokevirtual 64, 3) := by decide +kernel
theorem dX6_lay_7 : decode cX6_lay 7 = .ok (.bipush (-4), 2) := by decide +kernel
theorem dX6_lay_9 : decode cX6_lay 9 = .ok (.if_icmp .eq 6, 3) := by decide +kernel
theorem dX6_lay_12 : decode cX6_lay 12 = .ok (.bipush (-2), 2) := by decide +kernel
theorem dX6_lay_14 : decode cX6_lay 14 = .ok (.ireturn, 1) := by decide +kernel
theorem dX6_lay_15 : decode cX6_lay 15 = .ok (.aload_n 0, 1) := by decide +kernel
theorem dX6_lay_16 : decode cX6_lay 16 = .ok (.aload_n 0, 1) := by decide +kernel
theorem dX6_lay_17 : decode cX6_lay 17 = .ok (.getfield 12, 3) := by decide +kernel
theorem dX6_lay_20 : decode cX6_lay 20 = .ok (.iconst 0, 1) := by decide +kernel
theorem dX6_lay_21 : decode cX6_lay 21 = .ok (.invokevirtual 68, 3) := by decide +kernel
theorem dX6_lay_24 : decode cX6_lay 24 = .ok (.aload_n 0, 1) := by decide +kernel
theorem dX6_lay_25 : decode cX6_lay 25 = .ok (.getfield 16, 3) := by decide +kernel
theorem dX6_lay_28 : decode cX6_lay 28 = .ok (.getfield 72, 3) := by decide +kernel
theorem dX6_lay_31 : decode cX6_lay 31 = .ok (.ireturn, 1) := by decide +kernel
theorem dX6_doubt_0 : decode cX6_doubt 0 = .ok (.iload_n 1, 1) := by decide +kernel
theorem dX6_doubt_1 : decode cX6_doubt 1 = .ok (.ifCond .lt 11, 3) := by decide +kernel
theorem dX6_doubt_4 : decode cX6_doubt 4 = .ok (.iload_n 1, 1) := by decide +kernel
theorem dX6_doubt_5 : decode cX6_doubt 5 = .ok (.aload_n 0, 1) := by decide +kernel
theorem dX6_doubt_6 : decode cX6_doubt 6 = .ok (.invokevirtual 75, 3) := by decide +kernel
theorem dX6_doubt_9 : decode cX6_doubt 9 = .ok (.if_icmp .le 5, 3) := by decide +kernel
theorem dX6_doubt_12 : decode cX6_doubt 12 = .ok (.iconst (-1), 1) := by decide +kernel
theorem dX6_doubt_13 : decode cX6_doubt 13 = .ok (.ireturn, 1) := by decide +kernel
theorem dX6_doubt_14 : decode cX6_doubt 14 = .ok (.aload_n 0, 1) := by decide +kernel
theorem dX6_doubt_15 : decode cX6_doubt 15 = .ok (.getfield 78, 3) := by decide +kernel
theorem dX6_doubt_18 : decode cX6_doubt 18 = .ok (.istore_n 2, 1) := by decide +kernel
theorem dX6_doubt_19 : decode cX6_doubt 19 = .ok (.aload_n 0, 1) := by decide +kernel
theorem dX6_doubt_20 : decode cX6_doubt 20 = .ok (.iload_n 1, 1) := by decide +kernel
theorem dX6_doubt_21 : decode cX6_doubt 21 = .ok (.putfield 78, 3) := by decide +kernel
theorem dX6_doubt_24 : decode cX6_doubt 24 = .ok (.aload_n 0, 1) := by decide +kernel
theorem dX6_doubt_25 : decode cX6_doubt 25 = .ok (.iconst 0, 1) := by decide +kernel
theorem dX6_doubt_26 : decode cX6_doubt 26 = .ok (.putfield 81, 3) := by decide +kernel
theorem dX6_doubt_29 : decode cX6_doubt 29 = .ok (.iload_n 2, 1) := by decide +kernel
theorem dX6_doubt_30 : decode cX6_doubt 30 = .ok (.ireturn, 1) := by decide +kernel
theorem dX6_why_0 : decode cX6_why 0 = .ok (.aload_n 0, 1) := by decide +kernel
theorem dX6_why_1 : decode cX6_why 1 = .ok (.invokevirtual 85, 3) := by decide +kernel
theorem dX6_why_4 : decode cX6_why 4 = .ok (.pop, 1) := by decide +kernel
theorem dX6_why_5 : decode cX6_why 5 = .ok (.aload_n 0, 1) := by decide +kernel
theorem dX6_why_6 : decode cX6_why 6 = .ok (.getfield 40, 3) := by decide +kernel
theorem dX6_why_9 : decode cX6_why 9 = .ok (.getfield 88, 3) := by decide +kernel
theorem dX6_why_12 : decode cX6_why 12 = .ok (.ireturn, 1) := by decide +kernel
theorem dX6_fewest_0 : decode cX6_fewest 0 = .ok (.aload_n 0, 1) := by decide +kernel
theorem dX6_fewest_1 : decode cX6_fewest 1 = .ok (.getfield 53, 3) := by decide +kernel
theorem dX6_fewest_4 : decode cX6_fewest 4 = .ok (.iconst (-1), 1) := by decide +kernel
theorem dX6_fewest_5 : decode cX6_fewest 5 = .ok (.if_icmp .ne 28, 3) := by decide +kernel
theorem dX6_fewest_8 : decode cX6_fewest 8 = .ok (.aload_n 0, 1) := by decide +kernel
theorem dX6_fewest_9 : decode cX6_fewest 9 = .ok (.getfield 33, 3) := by decide +kernel
theorem dX6_fewest_12 : decode cX6_fewest 12 = .ok (.aload_n 0, 1) := by decide +kernel
theorem dX6_fewest_13 : decode cX6_fewest 13 = .ok (.getfield 16, 3) := by decide +kernel
theorem dX6_fewest_16 : decode cX6_fewest 16 = .ok (.aload_n 0, 1) := by decide +kernel
theorem dX6_fewest_17 : decode cX6_fewest 17 = .ok (.invokevirtual 75, 3) := by decide +kernel
theorem dX6_fewest_20 : decode cX6_fewest 20 = .ok (.invokevirtual 91, 3) := by decide +kernel
theorem dX6_fewest_23 : decode cX6_fewest 23 = .ok (.bipush (-4), 2) := by decide +kernel
theorem dX6_fewest_25 : decode cX6_fewest 25 = .ok (.if_icmp .ne 8, 3) := by decide +kernel
theorem dX6_fewest_28 : decode cX6_fewest 28 = .ok (.aload_n 0, 1) := by decide +kernel
theorem dX6_fewest_29 : decode cX6_fewest 29 = .ok (.iconst 0, 1) := by decide +kernel
theorem dX6_fewest_30 : decode cX6_fewest 30 = .ok (.putfield 53, 3) := by decide +kernel
theorem dX6_fewest_33 : decode cX6_fewest 33 = .ok (.aload_n 0, 1) := by decide +kernel
theorem dX6_fewest_34 : decode cX6_fewest 34 = .ok (.getfield 53, 3) := by decide +kernel
theorem dX6_fewest_37 : decode cX6_fewest 37 = .ok (.iconst (-1), 1) := by decide +kernel
theorem dX6_fewest_38 : decode cX6_fewest 38 = .ok (.if_icmp .ne 15, 3) := by decide +kernel
theorem dX6_fewest_41 : decode cX6_fewest 41 = .ok (.aload_n 0, 1) := by decide +kernel
theorem dX6_fewest_42 : decode cX6_fewest 42 = .ok (.invokevirtual 95, 3) := by decide +kernel
theorem dX6_fewest_45 : decode cX6_fewest 45 = .ok (.aload_n 0, 1) := by decide +kernel
theorem dX6_fewest_46 : decode cX6_fewest 46 = .ok (.aload_n 0, 1) := by decide +kernel
theorem dX6_fewest_47 : decode cX6_fewest 47 = .ok (.invokevirtual 98, 3) := by decide +kernel
theorem dX6_fewest_50 : decode cX6_fewest 50 = .ok (.putfield 53, 3) := by decide +kernel
theorem dX6_fewest_53 : decode cX6_fewest 53 = .ok (.aload_n 0, 1) := by decide +kernel
theorem dX6_fewest_54 : decode cX6_fewest 54 = .ok (.getfield 53, 3) := by decide +kernel
theorem dX6_fewest_57 : decode cX6_fewest 57 = .ok (.ireturn, 1) := by decide +kernel
theorem dX6_corners_0 : decode cX6_corners 0 = .ok (.aload_n 0, 1) := by decide +kernel
theorem dX6_corners_1 : decode cX6_corners 1 = .ok (.invokevirtual 85, 3) := by decide +kernel
theorem dX6_corners_4 : decode cX6_corners 4 = .ok (.istore_n 1, 1) := by decide +kernel
theorem dX6_corners_5 : decode cX6_corners 5 = .ok (.iload_n 1, 1) := by decide +kernel
theorem dX6_corners_6 : decode cX6_corners 6 = .ok (.ifCond .eq 7, 3) := by decide +kernel
theorem dX6_corners_9 : decode cX6_corners 9 = .ok (.iload_n 1, 1) := by decide +kernel
theorem dX6_corners_10 : decode cX6_corners 10 = .ok (.goto 10, 3) := by decide +kernel
theorem dX6_corners_13 : decode cX6_corners 13 = .ok (.aload_n 0, 1) := by decide +kernel
theorem dX6_corners_14 : decode cX6_corners 14 = .ok (.getfield 40, 3) := by decide +kernel
theorem dX6_corners_17 : decode cX6_corners 17 = .ok (.getfield 101, 3) := by decide +kernel
theorem dX6_corners_20 : decode cX6_corners 20 = .ok (.ireturn, 1) := by decide +kernel
theorem dX6_corner_0 : decode cX6_corner 0 = .ok (.iload_n 1, 1) := by decide +kernel
theorem dX6_corner_1 : decode cX6_corner 1 = .ok (.ifCond .lt 25, 3) := by decide +kernel
theorem dX6_corner_4 : decode cX6_corner 4 = .ok (.iload_n 1, 1) := by decide +kernel
theorem dX6_corner_5 : decode cX6_corner 5 = .ok (.aload_n 0, 1) := by decide +kernel
theorem dX6_corner_6 : decode cX6_corner 6 = .ok (.getfield 16, 3) := by decide +kernel
theorem dX6_corner_9 : decode cX6_corner 9 = .ok (.getfield 72, 3) := by decide +kernel
theorem dX6_corner_12 : decode cX6_corner 12 = .ok (.if_icmp .ge 14, 3) := by decide +kernel
theorem dX6_corner_15 : decode cX6_corner 15 = .ok (.aload_n 0, 1) := by decide +kernel
theorem dX6_corner_16 : decode cX6_corner 16 = .ok (.getfield 78, 3) := by decide +kernel
theorem dX6_corner_19 : decode cX6_corner 19 = .ok (.iload_n 1, 1) := by decide +kernel
theorem dX6_corner_20 : decode cX6_corner 20 = .ok (.ishr, 1) := by decide +kernel
theorem dX6_corner_21 : decode cX6_corner 21 = .ok (.iconst 1, 1) := by decide +kernel
theorem dX6_corner_22 : decode cX6_corner 22 = .ok (.iand, 1) := by decide +kernel
theorem dX6_corner_23 : decode cX6_corner 23 = .ok (.ifCond .eq 5, 3) := by decide +kernel
theorem dX6_corner_26 : decode cX6_corner 26 = .ok (.iconst (-1), 1) := by decide +kernel
theorem dX6_corner_27 : decode cX6_corner 27 = .ok (.ireturn, 1) := by decide +kernel
theorem dX6_corner_28 : decode cX6_corner 28 = .ok (.iload_n 2, 1) := by decide +kernel
theorem dX6_corner_29 : decode cX6_corner 29 = .ok (.ifCond .lt 16, 3) := by decide +kernel
theorem dX6_corner_32 : decode cX6_corner 32 = .ok (.iload_n 2, 1) := by decide +kernel
theorem dX6_corner_33 : decode cX6_corner 33 = .ok (.aload_n 0, 1) := by decide +kernel
theorem dX6_corner_34 : decode cX6_corner 34 = .ok (.getfield 16, 3) := by decide +kernel
theorem dX6_corner_37 : decode cX6_corner 37 = .ok (.getfield 104, 3) := by decide +kernel
theorem dX6_corner_40 : decode cX6_corner 40 = .ok (.iload_n 1, 1) := by decide +kernel
theorem dX6_corner_41 : decode cX6_corner 41 = .ok (.iaload, 1) := by decide +kernel
theorem dX6_corner_42 : decode cX6_corner 42 = .ok (.if_icmp .le 5, 3) := by decide +kernel
theorem dX6_corner_45 : decode cX6_corner 45 = .ok (.iconst (-1), 1) := by decide +kernel
theorem dX6_corner_46 : decode cX6_corner 46 = .ok (.ireturn, 1) := by decide +kernel
theorem dX6_corner_47 : decode cX6_corner 47 = .ok (.aload_n 0, 1) := by decide +kernel
theorem dX6_corner_48 : decode cX6_corner 48 = .ok (.invokevirtual 85, 3) := by decide +kernel
theorem dX6_corner_51 : decode cX6_corner 51 = .ok (.istore_n 3, 1) := by decide +kernel
theorem dX6_corner_52 : decode cX6_corner 52 = .ok (.iload_n 3, 1) := by decide +kernel
theorem dX6_corner_53 : decode cX6_corner 53 = .ok (.ifCond .eq 7, 3) := by decide +kernel
theorem dX6_corner_56 : decode cX6_corner 56 = .ok (.iload_n 3, 1) := by decide +kernel
theorem dX6_corner_57 : decode cX6_corner 57 = .ok (.goto 22, 3) := by decide +kernel
theorem dX6_corner_60 : decode cX6_corner 60 = .ok (.aload_n 0, 1) := by decide +kernel
theorem dX6_corner_61 : decode cX6_corner 61 = .ok (.getfield 40, 3) := by decide +kernel
theorem dX6_corner_64 : decode cX6_corner 64 = .ok (.getfield 107, 3) := by decide +kernel
theorem dX6_corner_67 : decode cX6_corner 67 = .ok (.aload_n 0, 1) := by decide +kernel
theorem dX6_corner_68 : decode cX6_corner 68 = .ok (.getfield 16, 3) := by decide +kernel
theorem dX6_corner_71 : decode cX6_corner 71 = .ok (.getfield 110, 3) := by decide +kernel
theorem dX6_corner_74 : decode cX6_corner 74 = .ok (.iload_n 1, 1) := by decide +kernel
theorem dX6_corner_75 : decode cX6_corner 75 = .ok (.iaload, 1) := by decide +kernel
theorem dX6_corner_76 : decode cX6_corner 76 = .ok (.iload_n 2, 1) := by decide +kernel
theorem dX6_corner_77 : decode cX6_corner 77 = .ok (.iadd, 1) := by decide +kernel
theorem dX6_corner_78 : decode cX6_corner 78 = .ok (.iaload, 1) := by decide +kernel
theorem dX6_corner_79 : decode cX6_corner 79 = .ok (.ireturn, 1) := by decide +kernel
theorem dX6_about_0 : decode cX6_about 0 = .ok (.iload_n 2, 1) := by decide +kernel
theorem dX6_about_1 : decode cX6_about 1 = .ok (.ifCond .lt 8, 3) := by decide +kernel
theorem dX6_about_4 : decode cX6_about 4 = .ok (.iload_n 2, 1) := by decide +kernel
theorem dX6_about_5 : decode cX6_about 5 = .ok (.iconst 3, 1) := by decide +kernel
theorem dX6_about_6 : decode cX6_about 6 = .ok (.if_icmp .le 5, 3) := by decide +kernel
theorem dX6_about_9 : decode cX6_about 9 = .ok (.iconst (-1), 1) := by decide +kernel
theorem dX6_about_10 : decode cX6_about 10 = .ok (.ireturn, 1) := by decide +kernel
theorem dX6_about_11 : decode cX6_about 11 = .ok (.aload_n 0, 1) := by decide +kernel
theorem dX6_about_12 : decode cX6_about 12 = .ok (.invokevirtual 85, 3) := by decide +kernel
theorem dX6_about_15 : decode cX6_about 15 = .ok (.istore_n 3, 1) := by decide +kernel
theorem dX6_about_16 : decode cX6_about 16 = .ok (.iload_n 3, 1) := by decide +kernel
theorem dX6_about_17 : decode cX6_about 17 = .ok (.ifCond .eq 5, 3) := by decide +kernel
theorem dX6_about_20 : decode cX6_about 20 = .ok (.iload_n 3, 1) := by decide +kernel
theorem dX6_about_21 : decode cX6_about 21 = .ok (.ireturn, 1) := by decide +kernel
theorem dX6_about_22 : decode cX6_about 22 = .ok (.aload_n 0, 1) := by decide +kernel
theorem dX6_about_23 : decode cX6_about 23 = .ok (.getfield 40, 3) := by decide +kernel
theorem dX6_about_26 : decode cX6_about 26 = .ok (.iload_n 1, 1) := by decide +kernel
theorem dX6_about_27 : decode cX6_about 27 = .ok (.invokevirtual 113, 3) := by decide +kernel
theorem dX6_about_30 : decode cX6_about 30 = .ok (.ifCond .ne 5, 3) := by decide +kernel
theorem dX6_about_33 : decode cX6_about 33 = .ok (.iconst (-1), 1) := by decide +kernel
theorem dX6_about_34 : decode cX6_about 34 = .ok (.ireturn, 1) := by decide +kernel
theorem dX6_about_35 : decode cX6_about 35 = .ok (.iload_n 2, 1) := by decide +kernel
theorem dX6_about_36 : decode cX6_about 36 = .ok (.tableswitch 56 0 2 #[28, 37, 47], 28) := by decide +kernel
theorem dX6_about_64 : decode cX6_about 64 = .ok (.aload_n 0, 1) := by decide +kernel
theorem dX6_about_65 : decode cX6_about 65 = .ok (.getfield 40, 3) := by decide +kernel
theorem dX6_about_68 : decode cX6_about 68 = .ok (.iload_n 1, 1) := by decide +kernel
theorem dX6_about_69 : decode cX6_about 69 = .ok (.invokevirtual 117, 3) := by decide +kernel
theorem dX6_about_72 : decode cX6_about 72 = .ok (.ireturn, 1) := by decide +kernel
theorem dX6_about_73 : decode cX6_about 73 = .ok (.aload_n 0, 1) := by decide +kernel
theorem dX6_about_74 : decode cX6_about 74 = .ok (.getfield 40, 3) := by decide +kernel
theorem dX6_about_77 : decode cX6_about 77 = .ok (.getfield 121, 3) := by decide +kernel
theorem dX6_about_80 : decode cX6_about 80 = .ok (.iload_n 1, 1) := by decide +kernel
theorem dX6_about_81 : decode cX6_about 81 = .ok (.iaload, 1) := by decide +kernel
theorem dX6_about_82 : decode cX6_about 82 = .ok (.ireturn, 1) := by decide +kernel
theorem dX6_about_83 : decode cX6_about 83 = .ok (.aload_n 0, 1) := by decide +kernel
theorem dX6_about_84 : decode cX6_about 84 = .ok (.getfield 40, 3) := by decide +kernel
theorem dX6_about_87 : decode cX6_about 87 = .ok (.iload_n 1, 1) := by decide +kernel
theorem dX6_about_88 : decode cX6_about 88 = .ok (.invokevirtual 124, 3) := by decide +kernel
theorem dX6_about_91 : decode cX6_about 91 = .ok (.ireturn, 1) := by decide +kernel
theorem dX6_about_92 : decode cX6_about 92 = .ok (.aload_n 0, 1) := by decide +kernel
theorem dX6_about_93 : decode cX6_about 93 = .ok (.getfield 40, 3) := by decide +kernel
theorem dX6_about_96 : decode cX6_about 96 = .ok (.iload_n 1, 1) := by decide +kernel
theorem dX6_about_97 : decode cX6_about 97 = .ok (.invokevirtual 127, 3) := by decide +kernel
theorem dX6_about_100 : decode cX6_about 100 = .ok (.ireturn, 1) := by decide +kernel
theorem dX6_town_0 : decode cX6_town 0 = .ok (.iload_n 1, 1) := by decide +kernel
theorem dX6_town_1 : decode cX6_town 1 = .ok (.ifCond .lt 8, 3) := by decide +kernel
theorem dX6_town_4 : decode cX6_town 4 = .ok (.iload_n 1, 1) := by decide +kernel
theorem dX6_town_5 : decode cX6_town 5 = .ok (.iconst 3, 1) := by decide +kernel
theorem dX6_town_6 : decode cX6_town 6 = .ok (.if_icmp .le 5, 3) := by decide +kernel
theorem dX6_town_9 : decode cX6_town 9 = .ok (.iconst (-1), 1) := by decide +kernel
theorem dX6_town_10 : decode cX6_town 10 = .ok (.ireturn, 1) := by decide +kernel
theorem dX6_town_11 : decode cX6_town 11 = .ok (.aload_n 0, 1) := by decide +kernel
theorem dX6_town_12 : decode cX6_town 12 = .ok (.invokevirtual 85, 3) := by decide +kernel
theorem dX6_town_15 : decode cX6_town 15 = .ok (.istore_n 2, 1) := by decide +kernel
theorem dX6_town_16 : decode cX6_town 16 = .ok (.iload_n 2, 1) := by decide +kernel
theorem dX6_town_17 : decode cX6_town 17 = .ok (.ifCond .eq 5, 3) := by decide +kernel
theorem dX6_town_20 : decode cX6_town 20 = .ok (.iload_n 2, 1) := by decide +kernel
theorem dX6_town_21 : decode cX6_town 21 = .ok (.ireturn, 1) := by decide +kernel
theorem dX6_town_22 : decode cX6_town 22 = .ok (.iload_n 1, 1) := by decide +kernel
theorem dX6_town_23 : decode cX6_town 23 = .ok (.tableswitch 70 0 2 #[25, 33, 54], 25) := by decide +kernel
theorem dX6_town_48 : decode cX6_town 48 = .ok (.aload_n 0, 1) := by decide +kernel
theorem dX6_town_49 : decode cX6_town 49 = .ok (.getfield 40, 3) := by decide +kernel
theorem dX6_town_52 : decode cX6_town 52 = .ok (.invokevirtual 130, 3) := by decide +kernel
theorem dX6_town_55 : decode cX6_town 55 = .ok (.ireturn, 1) := by decide +kernel
theorem dX6_town_56 : decode cX6_town 56 = .ok (.aload_n 0, 1) := by decide +kernel
theorem dX6_town_57 : decode cX6_town 57 = .ok (.getfield 40, 3) := by decide +kernel
theorem dX6_town_60 : decode cX6_town 60 = .ok (.getfield 133, 3) := by decide +kernel
theorem dX6_town_63 : decode cX6_town 63 = .ok (.getfield 137, 3) := by decide +kernel
theorem dX6_town_66 : decode cX6_town 66 = .ok (.iconst 2, 1) := by decide +kernel
theorem dX6_town_67 : decode cX6_town 67 = .ok (.aload_n 0, 1) := by decide +kernel
theorem dX6_town_68 : decode cX6_town 68 = .ok (.getfield 40, 3) := by decide +kernel
theorem dX6_town_71 : decode cX6_town 71 = .ok (.invokevirtual 130, 3) := by decide +kernel
theorem dX6_town_74 : decode cX6_town 74 = .ok (.imul, 1) := by decide +kernel
theorem dX6_town_75 : decode cX6_town 75 = .ok (.isub, 1) := by decide +kernel
theorem dX6_town_76 : decode cX6_town 76 = .ok (.ireturn, 1) := by decide +kernel
theorem dX6_town_77 : decode cX6_town 77 = .ok (.aload_n 0, 1) := by decide +kernel
theorem dX6_town_78 : decode cX6_town 78 = .ok (.getfield 40, 3) := by decide +kernel
theorem dX6_town_81 : decode cX6_town 81 = .ok (.invokevirtual 142, 3) := by decide +kernel
theorem dX6_town_84 : decode cX6_town 84 = .ok (.ifCond .eq 7, 3) := by decide +kernel
theorem dX6_town_87 : decode cX6_town 87 = .ok (.iconst 1, 1) := by decide +kernel
theorem dX6_town_88 : decode cX6_town 88 = .ok (.goto 4, 3) := by decide +kernel
theorem dX6_town_91 : decode cX6_town 91 = .ok (.iconst 0, 1) := by decide +kernel
theorem dX6_town_92 : decode cX6_town 92 = .ok (.ireturn, 1) := by decide +kernel
theorem dX6_town_93 : decode cX6_town 93 = .ok (.aload_n 0, 1) := by decide +kernel
theorem dX6_town_94 : decode cX6_town 94 = .ok (.getfield 40, 3) := by decide +kernel
theorem dX6_town_97 : decode cX6_town 97 = .ok (.invokevirtual 146, 3) := by decide +kernel
theorem dX6_town_100 : decode cX6_town 100 = .ok (.ireturn, 1) := by decide +kernel
theorem dX6_may_0 : decode cX6_may 0 = .ok (.aload_n 0, 1) := by decide +kernel
theorem dX6_may_1 : decode cX6_may 1 = .ok (.invokevirtual 85, 3) := by decide +kernel
theorem dX6_may_4 : decode cX6_may 4 = .ok (.istore_n 3, 1) := by decide +kernel
theorem dX6_may_5 : decode cX6_may 5 = .ok (.iload_n 3, 1) := by decide +kernel
theorem dX6_may_6 : decode cX6_may 6 = .ok (.ifCond .eq 5, 3) := by decide +kernel
theorem dX6_may_9 : decode cX6_may 9 = .ok (.iload_n 3, 1) := by decide +kernel
theorem dX6_may_10 : decode cX6_may 10 = .ok (.ireturn, 1) := by decide +kernel
theorem dX6_may_11 : decode cX6_may 11 = .ok (.aload_n 0, 1) := by decide +kernel
theorem dX6_may_12 : decode cX6_may 12 = .ok (.getfield 40, 3) := by decide +kernel
theorem dX6_may_15 : decode cX6_may 15 = .ok (.iload_n 1, 1) := by decide +kernel
theorem dX6_may_16 : decode cX6_may 16 = .ok (.invokevirtual 113, 3) := by decide +kernel
theorem dX6_may_19 : decode cX6_may 19 = .ok (.ifCond .eq 14, 3) := by decide +kernel
theorem dX6_may_22 : decode cX6_may 22 = .ok (.aload_n 0, 1) := by decide +kernel
theorem dX6_may_23 : decode cX6_may 23 = .ok (.getfield 40, 3) := by decide +kernel
theorem dX6_may_26 : decode cX6_may 26 = .ok (.iload_n 2, 1) := by decide +kernel
theorem dX6_may_27 : decode cX6_may 27 = .ok (.invokevirtual 113, 3) := by decide +kernel
theorem dX6_may_30 : decode cX6_may 30 = .ok (.ifCond .ne 5, 3) := by decide +kernel
theorem dX6_may_33 : decode cX6_may 33 = .ok (.iconst (-1), 1) := by decide +kernel
theorem dX6_may_34 : decode cX6_may 34 = .ok (.ireturn, 1) := by decide +kernel
theorem dX6_may_35 : decode cX6_may 35 = .ok (.iload_n 1, 1) := by decide +kernel
theorem dX6_may_36 : decode cX6_may 36 = .ok (.iload_n 2, 1) := by decide +kernel
theorem dX6_may_37 : decode cX6_may 37 = .ok (.if_icmp .ne 5, 3) := by decide +kernel
theorem dX6_may_40 : decode cX6_may 40 = .ok (.iconst 2, 1) := by decide +kernel
theorem dX6_may_41 : decode cX6_may 41 = .ok (.ireturn, 1) := by decide +kernel
theorem dX6_may_42 : decode cX6_may 42 = .ok (.aload_n 0, 1) := by decide +kernel
theorem dX6_may_43 : decode cX6_may 43 = .ok (.getfield 49, 3) := by decide +kernel
theorem dX6_may_46 : decode cX6_may 46 = .ok (.iload_n 1, 1) := by decide +kernel
theorem dX6_may_47 : decode cX6_may 47 = .ok (.iload_n 2, 1) := by decide +kernel
theorem dX6_may_48 : decode cX6_may 48 = .ok (.invokestatic 149, 3) := by decide +kernel
theorem dX6_may_51 : decode cX6_may 51 = .ok (.iload_n 1, 1) := by decide +kernel
theorem dX6_may_52 : decode cX6_may 52 = .ok (.iload_n 2, 1) := by decide +kernel
theorem dX6_may_53 : decode cX6_may 53 = .ok (.invokestatic 155, 3) := by decide +kernel
theorem dX6_may_56 : decode cX6_may 56 = .ok (.invokevirtual 158, 3) := by decide +kernel
theorem dX6_may_59 : decode cX6_may 59 = .ok (.ifCond .eq 7, 3) := by decide +kernel
theorem dX6_may_62 : decode cX6_may 62 = .ok (.iconst 1, 1) := by decide +kernel
theorem dX6_may_63 : decode cX6_may 63 = .ok (.goto 4, 3) := by decide +kernel
theorem dX6_may_66 : decode cX6_may 66 = .ok (.iconst 0, 1) := by decide +kernel
theorem dX6_may_67 : decode cX6_may 67 = .ok (.ireturn, 1) := by decide +kernel
theorem dX6_pairs_0 : decode cX6_pairs 0 = .ok (.iload_n 1, 1) := by decide +kernel
theorem dX6_pairs_1 : decode cX6_pairs 1 = .ok (.iconst (-1), 1) := by decide +kernel
theorem dX6_pairs_2 : decode cX6_pairs 2 = .ok (.if_icmp .ge 5, 3) := by decide +kernel
theorem dX6_pairs_5 : decode cX6_pairs 5 = .ok (.iconst (-1), 1) := by decide +kernel
theorem dX6_pairs_6 : decode cX6_pairs 6 = .ok (.ireturn, 1) := by decide +kernel
theorem dX6_pairs_7 : decode cX6_pairs 7 = .ok (.aload_n 0, 1) := by decide +kernel
theorem dX6_pairs_8 : decode cX6_pairs 8 = .ok (.invokevirtual 85, 3) := by decide +kernel
theorem dX6_pairs_11 : decode cX6_pairs 11 = .ok (.istore_n 2, 1) := by decide +kernel
theorem dX6_pairs_12 : decode cX6_pairs 12 = .ok (.iload_n 2, 1) := by decide +kernel
theorem dX6_pairs_13 : decode cX6_pairs 13 = .ok (.ifCond .eq 5, 3) := by decide +kernel
theorem dX6_pairs_16 : decode cX6_pairs 16 = .ok (.iload_n 2, 1) := by decide +kernel
theorem dX6_pairs_17 : decode cX6_pairs 17 = .ok (.ireturn, 1) := by decide +kernel
theorem dX6_pairs_18 : decode cX6_pairs 18 = .ok (.iconst 0, 1) := by decide +kernel
theorem dX6_pairs_19 : decode cX6_pairs 19 = .ok (.istore_n 3, 1) := by decide +kernel
theorem dX6_pairs_20 : decode cX6_pairs 20 = .ok (.iconst 0, 1) := by decide +kernel
theorem dX6_pairs_21 : decode cX6_pairs 21 = .ok (.istore 4, 2) := by decide +kernel
theorem dX6_pairs_23 : decode cX6_pairs 23 = .ok (.iload 4, 2) := by decide +kernel
theorem dX6_pairs_25 : decode cX6_pairs 25 = .ok (.aload_n 0, 1) := by decide +kernel
theorem dX6_pairs_26 : decode cX6_pairs 26 = .ok (.getfield 40, 3) := by decide +kernel
theorem dX6_pairs_29 : decode cX6_pairs 29 = .ok (.getfield 101, 3) := by decide +kernel
theorem dX6_pairs_32 : decode cX6_pairs 32 = .ok (.if_icmp .ge 64, 3) := by decide +kernel
theorem dX6_pairs_35 : decode cX6_pairs 35 = .ok (.iload 4, 2) := by decide +kernel
theorem dX6_pairs_37 : decode cX6_pairs 37 = .ok (.iconst 1, 1) := by decide +kernel
theorem dX6_pairs_38 : decode cX6_pairs 38 = .ok (.iadd, 1) := by decide +kernel
theorem dX6_pairs_39 : decode cX6_pairs 39 = .ok (.istore 5, 2) := by decide +kernel
theorem dX6_pairs_41 : decode cX6_pairs 41 = .ok (.iload 5, 2) := by decide +kernel
theorem dX6_pairs_43 : decode cX6_pairs 43 = .ok (.aload_n 0, 1) := by decide +kernel
theorem dX6_pairs_44 : decode cX6_pairs 44 = .ok (.getfield 40, 3) := by decide +kernel
theorem dX6_pairs_47 : decode cX6_pairs 47 = .ok (.getfield 101, 3) := by decide +kernel
theorem dX6_pairs_50 : decode cX6_pairs 50 = .ok (.if_icmp .ge 40, 3) := by decide +kernel
theorem dX6_pairs_53 : decode cX6_pairs 53 = .ok (.aload_n 0, 1) := by decide +kernel
theorem dX6_pairs_54 : decode cX6_pairs 54 = .ok (.getfield 49, 3) := by decide +kernel
theorem dX6_pairs_57 : decode cX6_pairs 57 = .ok (.iload 4, 2) := by decide +kernel
theorem dX6_pairs_59 : decode cX6_pairs 59 = .ok (.iload 5, 2) := by decide +kernel
theorem dX6_pairs_61 : decode cX6_pairs 61 = .ok (.invokevirtual 158, 3) := by decide +kernel
theorem dX6_pairs_64 : decode cX6_pairs 64 = .ok (.ifCond .eq 20, 3) := by decide +kernel
theorem dX6_pairs_67 : decode cX6_pairs 67 = .ok (.iload_n 3, 1) := by decide +kernel
theorem dX6_pairs_68 : decode cX6_pairs 68 = .ok (.iload_n 1, 1) := by decide +kernel
theorem dX6_pairs_69 : decode cX6_pairs 69 = .ok (.if_icmp .ne 12, 3) := by decide +kernel
theorem dX6_pairs_72 : decode cX6_pairs 72 = .ok (.bipush 100, 2) := by decide +kernel
theorem dX6_pairs_74 : decode cX6_pairs 74 = .ok (.iload 4, 2) := by decide +kernel
theorem dX6_pairs_76 : decode cX6_pairs 76 = .ok (.imul, 1) := by decide +kernel
theorem dX6_pairs_77 : decode cX6_pairs 77 = .ok (.iload 5, 2) := by decide +kernel
theorem dX6_pairs_79 : decode cX6_pairs 79 = .ok (.iadd, 1) := by decide +kernel
theorem dX6_pairs_80 : decode cX6_pairs 80 = .ok (.ireturn, 1) := by decide +kernel
theorem dX6_pairs_81 : decode cX6_pairs 81 = .ok (.iinc 3 1, 3) := by decide +kernel
theorem dX6_pairs_84 : decode cX6_pairs 84 = .ok (.iinc 5 1, 3) := by decide +kernel
theorem dX6_pairs_87 : decode cX6_pairs 87 = .ok (.goto (-46), 3) := by decide +kernel
theorem dX6_pairs_90 : decode cX6_pairs 90 = .ok (.iinc 4 1, 3) := by decide +kernel
theorem dX6_pairs_93 : decode cX6_pairs 93 = .ok (.goto (-70), 3) := by decide +kernel
theorem dX6_pairs_96 : decode cX6_pairs 96 = .ok (.iload_n 1, 1) := by decide +kernel
theorem dX6_pairs_97 : decode cX6_pairs 97 = .ok (.iconst (-1), 1) := by decide +kernel
theorem dX6_pairs_98 : decode cX6_pairs 98 = .ok (.if_icmp .ne 7, 3) := by decide +kernel
theorem dX6_pairs_101 : decode cX6_pairs 101 = .ok (.iload_n 3, 1) := by decide +kernel
theorem dX6_pairs_102 : decode cX6_pairs 102 = .ok (.goto 5, 3) := by decide +kernel
theorem dX6_pairs_105 : decode cX6_pairs 105 = .ok (.bipush (-4), 2) := by decide +kernel
theorem dX6_pairs_107 : decode cX6_pairs 107 = .ok (.ireturn, 1) := by decide +kernel
theorem dX6_smallest_0 : decode cX6_smallest 0 = .ok (.aload_n 0, 1) := by decide +kernel
theorem dX6_smallest_1 : decode cX6_smallest 1 = .ok (.invokevirtual 85, 3) := by decide +kernel
theorem dX6_smallest_4 : decode cX6_smallest 4 = .ok (.istore_n 1, 1) := by decide +kernel
theorem dX6_smallest_5 : decode cX6_smallest 5 = .ok (.iload_n 1, 1) := by decide +kernel
theorem dX6_smallest_6 : decode cX6_smallest 6 = .ok (.ifCond .ne 29, 3) := by decide +kernel
theorem dX6_smallest_9 : decode cX6_smallest 9 = .ok (.aload_n 0, 1) := by decide +kernel
theorem dX6_smallest_10 : decode cX6_smallest 10 = .ok (.getfield 40, 3) := by decide +kernel
theorem dX6_smallest_13 : decode cX6_smallest 13 = .ok (.getfield 101, 3) := by decide +kernel
theorem dX6_smallest_16 : decode cX6_smallest 16 = .ok (.iconst 4, 1) := by decide +kernel
theorem dX6_smallest_17 : decode cX6_smallest 17 = .ok (.if_icmp .gt 18, 3) := by decide +kernel
theorem dX6_smallest_20 : decode cX6_smallest 20 = .ok (.aload_n 0, 1) := by decide +kernel
theorem dX6_smallest_21 : decode cX6_smallest 21 = .ok (.getfield 40, 3) := by decide +kernel
theorem dX6_smallest_24 : decode cX6_smallest 24 = .ok (.getfield 133, 3) := by decide +kernel
theorem dX6_smallest_27 : decode cX6_smallest 27 = .ok (.getfield 137, 3) := by decide +kernel
theorem dX6_smallest_30 : decode cX6_smallest 30 = .ok (.bipush 24, 2) := by decide +kernel
theorem dX6_smallest_32 : decode cX6_smallest 32 = .ok (.if_icmp .le 6, 3) := by decide +kernel
theorem dX6_smallest_35 : decode cX6_smallest 35 = .ok (.bipush (-2), 2) := by decide +kernel
theorem dX6_smallest_37 : decode cX6_smallest 37 = .ok (.ireturn, 1) := by decide +kernel
theorem dX6_smallest_38 : decode cX6_smallest 38 = .ok (.aload_n 0, 1) := by decide +kernel
theorem dX6_smallest_39 : decode cX6_smallest 39 = .ok (.getfield 49, 3) := by decide +kernel
theorem dX6_smallest_42 : decode cX6_smallest 42 = .ok (.invokevirtual 162, 3) := by decide +kernel
theorem dX6_smallest_45 : decode cX6_smallest 45 = .ok (.ireturn, 1) := by decide +kernel
theorem dX6_way_0 : decode cX6_way 0 = .ok (.iload_n 1, 1) := by decide +kernel
theorem dX6_way_1 : decode cX6_way 1 = .ok (.invokestatic 165, 3) := by decide +kernel
theorem dX6_way_4 : decode cX6_way 4 = .ok (.ifCond .eq 8, 3) := by decide +kernel
theorem dX6_way_7 : decode cX6_way 7 = .ok (.iload_n 3, 1) := by decide +kernel
theorem dX6_way_8 : decode cX6_way 8 = .ok (.iconst (-1), 1) := by decide +kernel
theorem dX6_way_9 : decode cX6_way 9 = .ok (.if_icmp .ge 5, 3) := by decide +kernel
theorem dX6_way_12 : decode cX6_way 12 = .ok (.iconst (-1), 1) := by decide +kernel
theorem dX6_way_13 : decode cX6_way 13 = .ok (.ireturn, 1) := by decide +kernel
theorem dX6_way_14 : decode cX6_way 14 = .ok (.aload_n 0, 1) := by decide +kernel
theorem dX6_way_15 : decode cX6_way 15 = .ok (.invokevirtual 85, 3) := by decide +kernel
theorem dX6_way_18 : decode cX6_way 18 = .ok (.istore 4, 2) := by decide +kernel
theorem dX6_way_20 : decode cX6_way 20 = .ok (.iload 4, 2) := by decide +kernel
theorem dX6_way_22 : decode cX6_way 22 = .ok (.ifCond .eq 6, 3) := by decide +kernel
theorem dX6_way_25 : decode cX6_way 25 = .ok (.iload 4, 2) := by decide +kernel
theorem dX6_way_27 : decode cX6_way 27 = .ok (.ireturn, 1) := by decide +kernel
theorem dX6_way_28 : decode cX6_way 28 = .ok (.aload_n 0, 1) := by decide +kernel
theorem dX6_way_29 : decode cX6_way 29 = .ok (.getfield 40, 3) := by decide +kernel
theorem dX6_way_32 : decode cX6_way 32 = .ok (.iload_n 2, 1) := by decide +kernel
theorem dX6_way_33 : decode cX6_way 33 = .ok (.invokevirtual 113, 3) := by decide +kernel
theorem dX6_way_36 : decode cX6_way 36 = .ok (.ifCond .ne 5, 3) := by decide +kernel
theorem dX6_way_39 : decode cX6_way 39 = .ok (.iconst (-1), 1) := by decide +kernel
theorem dX6_way_40 : decode cX6_way 40 = .ok (.ireturn, 1) := by decide +kernel
theorem dX6_way_41 : decode cX6_way 41 = .ok (.aload_n 0, 1) := by decide +kernel
theorem dX6_way_42 : decode cX6_way 42 = .ok (.getfield 40, 3) := by decide +kernel
theorem dX6_way_45 : decode cX6_way 45 = .ok (.getfield 168, 3) := by decide +kernel
theorem dX6_way_48 : decode cX6_way 48 = .ok (.getfield 172, 3) := by decide +kernel
theorem dX6_way_51 : decode cX6_way 51 = .ok (.iload_n 1, 1) := by decide +kernel
theorem dX6_way_52 : decode cX6_way 52 = .ok (.iaload, 1) := by decide +kernel
theorem dX6_way_53 : decode cX6_way 53 = .ok (.istore 5, 2) := by decide +kernel
theorem dX6_way_55 : decode cX6_way 55 = .ok (.iload 5, 2) := by decide +kernel
theorem dX6_way_57 : decode cX6_way 57 = .ok (.ifCond .ge 7, 3) := by decide +kernel
theorem dX6_way_60 : decode cX6_way 60 = .ok (.iconst (-1), 1) := by decide +kernel
theorem dX6_way_61 : decode cX6_way 61 = .ok (.goto 13, 3) := by decide +kernel
theorem dX6_way_64 : decode cX6_way 64 = .ok (.aload_n 0, 1) := by decide +kernel
theorem dX6_way_65 : decode cX6_way 65 = .ok (.getfield 40, 3) := by decide +kernel
theorem dX6_way_68 : decode cX6_way 68 = .ok (.iload 5, 2) := by decide +kernel
theorem dX6_way_70 : decode cX6_way 70 = .ok (.iload_n 2, 1) := by decide +kernel
theorem dX6_way_71 : decode cX6_way 71 = .ok (.invokevirtual 177, 3) := by decide +kernel
theorem dX6_way_74 : decode cX6_way 74 = .ok (.istore 6, 2) := by decide +kernel
theorem dX6_way_76 : decode cX6_way 76 = .ok (.iload 6, 2) := by decide +kernel
theorem dX6_way_78 : decode cX6_way 78 = .ok (.ifCond .ge 6, 3) := by decide +kernel
theorem dX6_way_81 : decode cX6_way 81 = .ok (.bipush (-4), 2) := by decide +kernel
theorem dX6_way_83 : decode cX6_way 83 = .ok (.ireturn, 1) := by decide +kernel
theorem dX6_way_84 : decode cX6_way 84 = .ok (.aload_n 0, 1) := by decide +kernel
theorem dX6_way_85 : decode cX6_way 85 = .ok (.getfield 40, 3) := by decide +kernel
theorem dX6_way_88 : decode cX6_way 88 = .ok (.getfield 180, 3) := by decide +kernel
theorem dX6_way_91 : decode cX6_way 91 = .ok (.iload 6, 2) := by decide +kernel
theorem dX6_way_93 : decode cX6_way 93 = .ok (.iaload, 1) := by decide +kernel
theorem dX6_way_94 : decode cX6_way 94 = .ok (.istore 7, 2) := by decide +kernel
theorem dX6_way_96 : decode cX6_way 96 = .ok (.iload_n 3, 1) := by decide +kernel
theorem dX6_way_97 : decode cX6_way 97 = .ok (.iconst (-1), 1) := by decide +kernel
theorem dX6_way_98 : decode cX6_way 98 = .ok (.if_icmp .ne 6, 3) := by decide +kernel
theorem dX6_way_101 : decode cX6_way 101 = .ok (.iload 7, 2) := by decide +kernel
theorem dX6_way_103 : decode cX6_way 103 = .ok (.ireturn, 1) := by decide +kernel
theorem dX6_way_104 : decode cX6_way 104 = .ok (.iload_n 3, 1) := by decide +kernel
theorem dX6_way_105 : decode cX6_way 105 = .ok (.iload 7, 2) := by decide +kernel
theorem dX6_way_107 : decode cX6_way 107 = .ok (.if_icmp .ge 21, 3) := by decide +kernel
theorem dX6_way_110 : decode cX6_way 110 = .ok (.aload_n 0, 1) := by decide +kernel
theorem dX6_way_111 : decode cX6_way 111 = .ok (.getfield 40, 3) := by decide +kernel
theorem dX6_way_114 : decode cX6_way 114 = .ok (.iload 6, 2) := by decide +kernel
theorem dX6_way_116 : decode cX6_way 116 = .ok (.iload 7, 2) := by decide +kernel
theorem dX6_way_118 : decode cX6_way 118 = .ok (.iconst 1, 1) := by decide +kernel
theorem dX6_way_119 : decode cX6_way 119 = .ok (.isub, 1) := by decide +kernel
theorem dX6_way_120 : decode cX6_way 120 = .ok (.iload_n 3, 1) := by decide +kernel
theorem dX6_way_121 : decode cX6_way 121 = .ok (.isub, 1) := by decide +kernel
theorem dX6_way_122 : decode cX6_way 122 = .ok (.invokevirtual 183, 3) := by decide +kernel
theorem dX6_way_125 : decode cX6_way 125 = .ok (.goto 5, 3) := by decide +kernel
theorem dX6_way_128 : decode cX6_way 128 = .ok (.bipush (-4), 2) := by decide +kernel
theorem dX6_way_130 : decode cX6_way 130 = .ok (.ireturn, 1) := by decide +kernel
theorem dX6_told_0 : decode cX6_told 0 = .ok (.iload_n 1, 1) := by decide +kernel
theorem dX6_told_1 : decode cX6_told 1 = .ok (.invokestatic 165, 3) := by decide +kernel
theorem dX6_told_4 : decode cX6_told 4 = .ok (.ifCond .eq 24, 3) := by decide +kernel
theorem dX6_told_7 : decode cX6_told 7 = .ok (.iload_n 2, 1) := by decide +kernel
theorem dX6_told_8 : decode cX6_told 8 = .ok (.ifCond .lt 20, 3) := by decide +kernel
theorem dX6_told_11 : decode cX6_told 11 = .ok (.iload_n 2, 1) := by decide +kernel
theorem dX6_told_12 : decode cX6_told 12 = .ok (.bipush 12, 2) := by decide +kernel
theorem dX6_told_14 : decode cX6_told 14 = .ok (.if_icmp .gt 14, 3) := by decide +kernel
theorem dX6_told_17 : decode cX6_told 17 = .ok (.iload 5, 2) := by decide +kernel
theorem dX6_told_19 : decode cX6_told 19 = .ok (.ifCond .lt 9, 3) := by decide +kernel
theorem dX6_told_22 : decode cX6_told 22 = .ok (.iload 5, 2) := by decide +kernel
theorem dX6_told_24 : decode cX6_told 24 = .ok (.iconst 1, 1) := by decide +kernel
theorem dX6_told_25 : decode cX6_told 25 = .ok (.if_icmp .le 5, 3) := by decide +kernel
theorem dX6_told_28 : decode cX6_told 28 = .ok (.iconst (-1), 1) := by decide +kernel
theorem dX6_told_29 : decode cX6_told 29 = .ok (.ireturn, 1) := by decide +kernel
theorem dX6_told_30 : decode cX6_told 30 = .ok (.lload_n 3, 1) := by decide +kernel
theorem dX6_told_31 : decode cX6_told 31 = .ok (.iload_n 2, 1) := by decide +kernel
theorem dX6_told_32 : decode cX6_told 32 = .ok (.invokestatic 186, 3) := by decide +kernel
theorem dX6_told_35 : decode cX6_told 35 = .ok (.ifCond .ne 5, 3) := by decide +kernel
theorem dX6_told_38 : decode cX6_told 38 = .ok (.iconst (-1), 1) := by decide +kernel
theorem dX6_told_39 : decode cX6_told 39 = .ok (.ireturn, 1) := by decide +kernel
theorem dX6_told_40 : decode cX6_told 40 = .ok (.aload_n 0, 1) := by decide +kernel
theorem dX6_told_41 : decode cX6_told 41 = .ok (.invokevirtual 85, 3) := by decide +kernel
theorem dX6_told_44 : decode cX6_told 44 = .ok (.istore 6, 2) := by decide +kernel
theorem dX6_told_46 : decode cX6_told 46 = .ok (.iload 6, 2) := by decide +kernel
theorem dX6_told_48 : decode cX6_told 48 = .ok (.ifCond .eq 6, 3) := by decide +kernel
theorem dX6_told_51 : decode cX6_told 51 = .ok (.iload 6, 2) := by decide +kernel
theorem dX6_told_53 : decode cX6_told 53 = .ok (.ireturn, 1) := by decide +kernel
theorem dX6_told_54 : decode cX6_told 54 = .ok (.aload_n 0, 1) := by decide +kernel
theorem dX6_told_55 : decode cX6_told 55 = .ok (.getfield 40, 3) := by decide +kernel
theorem dX6_told_58 : decode cX6_told 58 = .ok (.getfield 168, 3) := by decide +kernel
theorem dX6_told_61 : decode cX6_told 61 = .ok (.getfield 172, 3) := by decide +kernel
theorem dX6_told_64 : decode cX6_told 64 = .ok (.iload_n 1, 1) := by decide +kernel
theorem dX6_told_65 : decode cX6_told 65 = .ok (.iaload, 1) := by decide +kernel
theorem dX6_told_66 : decode cX6_told 66 = .ok (.istore 7, 2) := by decide +kernel
theorem dX6_told_68 : decode cX6_told 68 = .ok (.iload 7, 2) := by decide +kernel
theorem dX6_told_70 : decode cX6_told 70 = .ok (.ifCond .ge 6, 3) := by decide +kernel
theorem dX6_told_73 : decode cX6_told 73 = .ok (.bipush (-4), 2) := by decide +kernel
theorem dX6_told_75 : decode cX6_told 75 = .ok (.ireturn, 1) := by decide +kernel
theorem dX6_told_76 : decode cX6_told 76 = .ok (.iconst 0, 1) := by decide +kernel
theorem dX6_told_77 : decode cX6_told 77 = .ok (.istore 8, 2) := by decide +kernel
theorem dX6_told_79 : decode cX6_told 79 = .ok (.iload 8, 2) := by decide +kernel
theorem dX6_told_81 : decode cX6_told 81 = .ok (.iload_n 2, 1) := by decide +kernel
theorem dX6_told_82 : decode cX6_told 82 = .ok (.if_icmp .ge 42, 3) := by decide +kernel
theorem dX6_told_85 : decode cX6_told 85 = .ok (.aload_n 0, 1) := by decide +kernel
theorem dX6_told_86 : decode cX6_told 86 = .ok (.getfield 40, 3) := by decide +kernel
theorem dX6_told_89 : decode cX6_told 89 = .ok (.iload 7, 2) := by decide +kernel
theorem dX6_told_91 : decode cX6_told 91 = .ok (.lload_n 3, 1) := by decide +kernel
theorem dX6_told_92 : decode cX6_told 92 = .ok (.iload_n 2, 1) := by decide +kernel
theorem dX6_told_93 : decode cX6_told 93 = .ok (.iconst 1, 1) := by decide +kernel
theorem dX6_told_94 : decode cX6_told 94 = .ok (.isub, 1) := by decide +kernel
theorem dX6_told_95 : decode cX6_told 95 = .ok (.iload 8, 2) := by decide +kernel
theorem dX6_told_97 : decode cX6_told 97 = .ok (.isub, 1) := by decide +kernel
theorem dX6_told_98 : decode cX6_told 98 = .ok (.invokestatic 190, 3) := by decide +kernel
theorem dX6_told_101 : decode cX6_told 101 = .ok (.invokevirtual 194, 3) := by decide +kernel
theorem dX6_told_104 : decode cX6_told 104 = .ok (.istore 9, 2) := by decide +kernel
theorem dX6_told_106 : decode cX6_told 106 = .ok (.iload 9, 2) := by decide +kernel
theorem dX6_told_108 : decode cX6_told 108 = .ok (.ifCond .ge 6, 3) := by decide +kernel
theorem dX6_told_111 : decode cX6_told 111 = .ok (.goto 13, 3) := by decide +kernel
theorem dX6_told_114 : decode cX6_told 114 = .ok (.iload 9, 2) := by decide +kernel
theorem dX6_told_116 : decode cX6_told 116 = .ok (.istore 7, 2) := by decide +kernel
theorem dX6_told_118 : decode cX6_told 118 = .ok (.iinc 8 1, 3) := by decide +kernel
theorem dX6_told_121 : decode cX6_told 121 = .ok (.goto (-42), 3) := by decide +kernel
theorem dX6_told_124 : decode cX6_told 124 = .ok (.iload 5, 2) := by decide +kernel
theorem dX6_told_126 : decode cX6_told 126 = .ok (.ifCond .ne 8, 3) := by decide +kernel
theorem dX6_told_129 : decode cX6_told 129 = .ok (.iload 8, 2) := by decide +kernel
theorem dX6_told_131 : decode cX6_told 131 = .ok (.goto 16, 3) := by decide +kernel
theorem dX6_told_134 : decode cX6_told 134 = .ok (.aload_n 0, 1) := by decide +kernel
theorem dX6_told_135 : decode cX6_told 135 = .ok (.getfield 40, 3) := by decide +kernel
theorem dX6_told_138 : decode cX6_told 138 = .ok (.getfield 133, 3) := by decide +kernel
theorem dX6_told_141 : decode cX6_told 141 = .ok (.getfield 197, 3) := by decide +kernel
theorem dX6_told_144 : decode cX6_told 144 = .ok (.iload 7, 2) := by decide +kernel
theorem dX6_told_146 : decode cX6_told 146 = .ok (.iaload, 1) := by decide +kernel
theorem dX6_told_147 : decode cX6_told 147 = .ok (.ireturn, 1) := by decide +kernel
theorem dX6_keep_0 : decode cX6_keep 0 = .ok (.aload_n 0, 1) := by decide +kernel
theorem dX6_keep_1 : decode cX6_keep 1 = .ok (.getfield 200, 3) := by decide +kernel
theorem dX6_keep_4 : decode cX6_keep 4 = .ok (.iconst 2, 1) := by decide +kernel
theorem dX6_keep_5 : decode cX6_keep 5 = .ok (.if_icmp .lt 6, 3) := by decide +kernel
theorem dX6_keep_8 : decode cX6_keep 8 = .ok (.bipush (-3), 2) := by decide +kernel
theorem dX6_keep_10 : decode cX6_keep 10 = .ok (.ireturn, 1) := by decide +kernel
theorem dX6_keep_11 : decode cX6_keep 11 = .ok (.aload_n 0, 1) := by decide +kernel
theorem dX6_keep_12 : decode cX6_keep 12 = .ok (.getfield 19, 3) := by decide +kernel
theorem dX6_keep_15 : decode cX6_keep 15 = .ok (.aload_n 0, 1) := by decide +kernel
theorem dX6_keep_16 : decode cX6_keep 16 = .ok (.getfield 200, 3) := by decide +kernel
theorem dX6_keep_19 : decode cX6_keep 19 = .ok (.aaload, 1) := by decide +kernel
theorem dX6_keep_20 : decode cX6_keep 20 = .ok (.aload_n 0, 1) := by decide +kernel
theorem dX6_keep_21 : decode cX6_keep 21 = .ok (.getfield 16, 3) := by decide +kernel
theorem dX6_keep_24 : decode cX6_keep 24 = .ok (.invokevirtual 203, 3) := by decide +kernel
theorem dX6_keep_27 : decode cX6_keep 27 = .ok (.aload_n 0, 1) := by decide +kernel
theorem dX6_keep_28 : decode cX6_keep 28 = .ok (.getfield 23, 3) := by decide +kernel
theorem dX6_keep_31 : decode cX6_keep 31 = .ok (.aload_n 0, 1) := by decide +kernel
theorem dX6_keep_32 : decode cX6_keep 32 = .ok (.getfield 200, 3) := by decide +kernel
theorem dX6_keep_35 : decode cX6_keep 35 = .ok (.aload_n 0, 1) := by decide +kernel
theorem dX6_keep_36 : decode cX6_keep 36 = .ok (.getfield 78, 3) := by decide +kernel
theorem dX6_keep_39 : decode cX6_keep 39 = .ok (.iastore, 1) := by decide +kernel
theorem dX6_keep_40 : decode cX6_keep 40 = .ok (.aload_n 0, 1) := by decide +kernel
theorem dX6_keep_41 : decode cX6_keep 41 = .ok (.dup, 1) := by decide +kernel
theorem dX6_keep_42 : decode cX6_keep 42 = .ok (.getfield 200, 3) := by decide +kernel
theorem dX6_keep_45 : decode cX6_keep 45 = .ok (.iconst 1, 1) := by decide +kernel
theorem dX6_keep_46 : decode cX6_keep 46 = .ok (.iadd, 1) := by decide +kernel
theorem dX6_keep_47 : decode cX6_keep 47 = .ok (.putfield 200, 3) := by decide +kernel
theorem dX6_keep_50 : decode cX6_keep 50 = .ok (.aload_n 0, 1) := by decide +kernel
theorem dX6_keep_51 : decode cX6_keep 51 = .ok (.getfield 200, 3) := by decide +kernel
theorem dX6_keep_54 : decode cX6_keep 54 = .ok (.ireturn, 1) := by decide +kernel
theorem dX6_back_0 : decode cX6_back 0 = .ok (.aload_n 0, 1) := by decide +kernel
theorem dX6_back_1 : decode cX6_back 1 = .ok (.getfield 200, 3) := by decide +kernel
theorem dX6_back_4 : decode cX6_back 4 = .ok (.iconst 1, 1) := by decide +kernel
theorem dX6_back_5 : decode cX6_back 5 = .ok (.if_icmp .lt 11, 3) := by decide +kernel
theorem dX6_back_8 : decode cX6_back 8 = .ok (.aload_n 0, 1) := by decide +kernel
theorem dX6_back_9 : decode cX6_back 9 = .ok (.getfield 200, 3) := by decide +kernel
theorem dX6_back_12 : decode cX6_back 12 = .ok (.iconst 2, 1) := by decide +kernel
theorem dX6_back_13 : decode cX6_back 13 = .ok (.if_icmp .le 6, 3) := by decide +kernel
theorem dX6_back_16 : decode cX6_back 16 = .ok (.bipush (-2), 2) := by decide +kernel
theorem dX6_back_18 : decode cX6_back 18 = .ok (.ireturn, 1) := by decide +kernel
theorem dX6_back_19 : decode cX6_back 19 = .ok (.aload_n 0, 1) := by decide +kernel
theorem dX6_back_20 : decode cX6_back 20 = .ok (.dup, 1) := by decide +kernel
theorem dX6_back_21 : decode cX6_back 21 = .ok (.getfield 200, 3) := by decide +kernel
theorem dX6_back_24 : decode cX6_back 24 = .ok (.iconst 1, 1) := by decide +kernel
theorem dX6_back_25 : decode cX6_back 25 = .ok (.isub, 1) := by decide +kernel
theorem dX6_back_26 : decode cX6_back 26 = .ok (.putfield 200, 3) := by decide +kernel
theorem dX6_back_29 : decode cX6_back 29 = .ok (.aload_n 0, 1) := by decide +kernel
theorem dX6_back_30 : decode cX6_back 30 = .ok (.aload_n 0, 1) := by decide +kernel
theorem dX6_back_31 : decode cX6_back 31 = .ok (.getfield 19, 3) := by decide +kernel
theorem dX6_back_34 : decode cX6_back 34 = .ok (.aload_n 0, 1) := by decide +kernel
theorem dX6_back_35 : decode cX6_back 35 = .ok (.getfield 200, 3) := by decide +kernel
theorem dX6_back_38 : decode cX6_back 38 = .ok (.aaload, 1) := by decide +kernel
theorem dX6_back_39 : decode cX6_back 39 = .ok (.aload_n 0, 1) := by decide +kernel
theorem dX6_back_40 : decode cX6_back 40 = .ok (.getfield 23, 3) := by decide +kernel
theorem dX6_back_43 : decode cX6_back 43 = .ok (.aload_n 0, 1) := by decide +kernel
theorem dX6_back_44 : decode cX6_back 44 = .ok (.getfield 200, 3) := by decide +kernel
theorem dX6_back_47 : decode cX6_back 47 = .ok (.iaload, 1) := by decide +kernel
theorem dX6_back_48 : decode cX6_back 48 = .ok (.invokevirtual 68, 3) := by decide +kernel
theorem dX6_back_51 : decode cX6_back 51 = .ok (.aload_n 0, 1) := by decide +kernel
theorem dX6_back_52 : decode cX6_back 52 = .ok (.getfield 200, 3) := by decide +kernel
theorem dX6_back_55 : decode cX6_back 55 = .ok (.ireturn, 1) := by decide +kernel
theorem dX6_count_0 : decode cX6_count 0 = .ok (.iload_n 1, 1) := by decide +kernel
theorem dX6_count_1 : decode cX6_count 1 = .ok (.tableswitch 72 0 4 #[35, 43, 51, 59, 67], 35) := by decide +kernel
theorem dX6_count_36 : decode cX6_count 36 = .ok (.aload_n 0, 1) := by decide +kernel
theorem dX6_count_37 : decode cX6_count 37 = .ok (.getfield 12, 3) := by decide +kernel
theorem dX6_count_40 : decode cX6_count 40 = .ok (.getfield 57, 3) := by decide +kernel
theorem dX6_count_43 : decode cX6_count 43 = .ok (.ireturn, 1) := by decide +kernel
theorem dX6_count_44 : decode cX6_count 44 = .ok (.aload_n 0, 1) := by decide +kernel
theorem dX6_count_45 : decode cX6_count 45 = .ok (.getfield 16, 3) := by decide +kernel
theorem dX6_count_48 : decode cX6_count 48 = .ok (.getfield 72, 3) := by decide +kernel
theorem dX6_count_51 : decode cX6_count 51 = .ok (.ireturn, 1) := by decide +kernel
theorem dX6_count_52 : decode cX6_count 52 = .ok (.aload_n 0, 1) := by decide +kernel
theorem dX6_count_53 : decode cX6_count 53 = .ok (.getfield 16, 3) := by decide +kernel
theorem dX6_count_56 : decode cX6_count 56 = .ok (.invokevirtual 207, 3) := by decide +kernel
theorem dX6_count_59 : decode cX6_count 59 = .ok (.ireturn, 1) := by decide +kernel
theorem dX6_count_60 : decode cX6_count 60 = .ok (.aload_n 0, 1) := by decide +kernel
theorem dX6_count_61 : decode cX6_count 61 = .ok (.getfield 78, 3) := by decide +kernel
theorem dX6_count_64 : decode cX6_count 64 = .ok (.invokestatic 210, 3) := by decide +kernel
theorem dX6_count_67 : decode cX6_count 67 = .ok (.ireturn, 1) := by decide +kernel
theorem dX6_count_68 : decode cX6_count 68 = .ok (.aload_n 0, 1) := by decide +kernel
theorem dX6_count_69 : decode cX6_count 69 = .ok (.getfield 200, 3) := by decide +kernel
theorem dX6_count_72 : decode cX6_count 72 = .ok (.ireturn, 1) := by decide +kernel
theorem dX6_count_73 : decode cX6_count 73 = .ok (.iconst (-1), 1) := by decide +kernel
theorem dX6_count_74 : decode cX6_count 74 = .ok (.ireturn, 1) := by decide +kernel
theorem dX6_isThing_0 : decode cX6_isThing 0 = .ok (.iload_n 0, 1) := by decide +kernel
theorem dX6_isThing_1 : decode cX6_isThing 1 = .ok (.ifCond .lt 13, 3) := by decide +kernel
theorem dX6_isThing_4 : decode cX6_isThing 4 = .ok (.iload_n 0, 1) := by decide +kernel
theorem dX6_isThing_5 : decode cX6_isThing 5 = .ok (.bipush 8, 2) := by decide +kernel
theorem dX6_isThing_7 : decode cX6_isThing 7 = .ok (.if_icmp .ge 7, 3) := by decide +kernel
theorem dX6_isThing_10 : decode cX6_isThing 10 = .ok (.iconst 1, 1) := by decide +kernel
theorem dX6_isThing_11 : decode cX6_isThing 11 = .ok (.goto 4, 3) := by decide +kernel
theorem dX6_isThing_14 : decode cX6_isThing 14 = .ok (.iconst 0, 1) := by decide +kernel
theorem dX6_isThing_15 : decode cX6_isThing 15 = .ok (.ireturn, 1) := by decide +kernel
theorem dX6_isTurnings_0 : decode cX6_isTurnings 0 = .ok (.iconst 0, 1) := by decide +kernel
theorem dX6_isTurnings_1 : decode cX6_isTurnings 1 = .ok (.istore_n 3, 1) := by decide +kernel
theorem dX6_isTurnings_2 : decode cX6_isTurnings 2 = .ok (.iload_n 3, 1) := by decide +kernel
theorem dX6_isTurnings_3 : decode cX6_isTurnings 3 = .ok (.iload_n 2, 1) := by decide +kernel
theorem dX6_isTurnings_4 : decode cX6_isTurnings 4 = .ok (.if_icmp .ge 20, 3) := by decide +kernel
theorem dX6_isTurnings_7 : decode cX6_isTurnings 7 = .ok (.lload_n 0, 1) := by decide +kernel
theorem dX6_isTurnings_8 : decode cX6_isTurnings 8 = .ok (.iload_n 3, 1) := by decide +kernel
theorem dX6_isTurnings_9 : decode cX6_isTurnings 9 = .ok (.invokestatic 190, 3) := by decide +kernel
theorem dX6_isTurnings_12 : decode cX6_isTurnings 12 = .ok (.iconst 5, 1) := by decide +kernel
theorem dX6_isTurnings_13 : decode cX6_isTurnings 13 = .ok (.if_icmp .le 5, 3) := by decide +kernel
theorem dX6_isTurnings_16 : decode cX6_isTurnings 16 = .ok (.iconst 0, 1) := by decide +kernel
theorem dX6_isTurnings_17 : decode cX6_isTurnings 17 = .ok (.ireturn, 1) := by decide +kernel
theorem dX6_isTurnings_18 : decode cX6_isTurnings 18 = .ok (.iinc 3 1, 3) := by decide +kernel
theorem dX6_isTurnings_21 : decode cX6_isTurnings 21 = .ok (.goto (-19), 3) := by decide +kernel
theorem dX6_isTurnings_24 : decode cX6_isTurnings 24 = .ok (.lload_n 0, 1) := by decide +kernel
theorem dX6_isTurnings_25 : decode cX6_isTurnings 25 = .ok (.iconst 4, 1) := by decide +kernel
theorem dX6_isTurnings_26 : decode cX6_isTurnings 26 = .ok (.iload_n 2, 1) := by decide +kernel
theorem dX6_isTurnings_27 : decode cX6_isTurnings 27 = .ok (.imul, 1) := by decide +kernel
theorem dX6_isTurnings_28 : decode cX6_isTurnings 28 = .ok (.lushr, 1) := by decide +kernel
theorem dX6_isTurnings_29 : decode cX6_isTurnings 29 = .ok (.lconst 0, 1) := by decide +kernel
theorem dX6_isTurnings_30 : decode cX6_isTurnings 30 = .ok (.lcmp, 1) := by decide +kernel
theorem dX6_isTurnings_31 : decode cX6_isTurnings 31 = .ok (.ifCond .ne 7, 3) := by decide +kernel
theorem dX6_isTurnings_34 : decode cX6_isTurnings 34 = .ok (.iconst 1, 1) := by decide +kernel
theorem dX6_isTurnings_35 : decode cX6_isTurnings 35 = .ok (.goto 4, 3) := by decide +kernel
theorem dX6_isTurnings_38 : decode cX6_isTurnings 38 = .ok (.iconst 0, 1) := by decide +kernel
theorem dX6_isTurnings_39 : decode cX6_isTurnings 39 = .ok (.ireturn, 1) := by decide +kernel
theorem dX6_turningIn_0 : decode cX6_turningIn 0 = .ok (.lload_n 0, 1) := by decide +kernel
theorem dX6_turningIn_1 : decode cX6_turningIn 1 = .ok (.iconst 4, 1) := by decide +kernel
theorem dX6_turningIn_2 : decode cX6_turningIn 2 = .ok (.iload_n 2, 1) := by decide +kernel
theorem dX6_turningIn_3 : decode cX6_turningIn 3 = .ok (.imul, 1) := by decide +kernel
theorem dX6_turningIn_4 : decode cX6_turningIn 4 = .ok (.lshr, 1) := by decide +kernel
theorem dX6_turningIn_5 : decode cX6_turningIn 5 = .ok (.l2i, 1) := by decide +kernel
theorem dX6_turningIn_6 : decode cX6_turningIn 6 = .ok (.bipush 15, 2) := by decide +kernel
theorem dX6_turningIn_8 : decode cX6_turningIn 8 = .ok (.iand, 1) := by decide +kernel
theorem dX6_turningIn_9 : decode cX6_turningIn 9 = .ok (.ireturn, 1) := by decide +kernel
theorem dX6_allWalks_0 : decode cX6_allWalks 0 = .ok (.iconst 1, 1) := by decide +kernel
theorem dX6_allWalks_1 : decode cX6_allWalks 1 = .ok (.aload_n 0, 1) := by decide +kernel
theorem dX6_allWalks_2 : decode cX6_allWalks 2 = .ok (.getfield 16, 3) := by decide +kernel
theorem dX6_allWalks_5 : decode cX6_allWalks 5 = .ok (.getfield 72, 3) := by decide +kernel
theorem dX6_allWalks_8 : decode cX6_allWalks 8 = .ok (.ishl, 1) := by decide +kernel
theorem dX6_allWalks_9 : decode cX6_allWalks 9 = .ok (.iconst 1, 1) := by decide +kernel
theorem dX6_allWalks_10 : decode cX6_allWalks 10 = .ok (.isub, 1) := by decide +kernel
theorem dX6_allWalks_11 : decode cX6_allWalks 11 = .ok (.ireturn, 1) := by decide +kernel
theorem dX6_layAnew_0 : decode cX6_layAnew 0 = .ok (.aload_n 0, 1) := by decide +kernel
theorem dX6_layAnew_1 : decode cX6_layAnew 1 = .ok (.getfield 16, 3) := by decide +kernel
theorem dX6_layAnew_4 : decode cX6_layAnew 4 = .ok (.aload_n 1, 1) := by decide +kernel
theorem dX6_layAnew_5 : decode cX6_layAnew 5 = .ok (.invokevirtual 203, 3) := by decide +kernel
theorem dX6_layAnew_8 : decode cX6_layAnew 8 = .ok (.aload_n 0, 1) := by decide +kernel
theorem dX6_layAnew_9 : decode cX6_layAnew 9 = .ok (.getfield 16, 3) := by decide +kernel
theorem dX6_layAnew_12 : decode cX6_layAnew 12 = .ok (.invokevirtual 215, 3) := by decide +kernel
theorem dX6_layAnew_15 : decode cX6_layAnew 15 = .ok (.aload_n 0, 1) := by decide +kernel
theorem dX6_layAnew_16 : decode cX6_layAnew 16 = .ok (.iload_n 2, 1) := by decide +kernel
theorem dX6_layAnew_17 : decode cX6_layAnew 17 = .ok (.putfield 78, 3) := by decide +kernel
theorem dX6_layAnew_20 : decode cX6_layAnew 20 = .ok (.aload_n 0, 1) := by decide +kernel
theorem dX6_layAnew_21 : decode cX6_layAnew 21 = .ok (.iconst 0, 1) := by decide +kernel
theorem dX6_layAnew_22 : decode cX6_layAnew 22 = .ok (.putfield 81, 3) := by decide +kernel
theorem dX6_layAnew_25 : decode cX6_layAnew 25 = .ok (.aload_n 0, 1) := by decide +kernel
theorem dX6_layAnew_26 : decode cX6_layAnew 26 = .ok (.iconst (-1), 1) := by decide +kernel
theorem dX6_layAnew_27 : decode cX6_layAnew 27 = .ok (.putfield 53, 3) := by decide +kernel
theorem dX6_layAnew_30 : decode cX6_layAnew 30 = .ok (.return_, 1) := by decide +kernel
theorem dX6_settle_0 : decode cX6_settle 0 = .ok (.aload_n 0, 1) := by decide +kernel
theorem dX6_settle_1 : decode cX6_settle 1 = .ok (.getfield 81, 3) := by decide +kernel
theorem dX6_settle_4 : decode cX6_settle 4 = .ok (.ifCond .ne 86, 3) := by decide +kernel
theorem dX6_settle_7 : decode cX6_settle 7 = .ok (.aload_n 0, 1) := by decide +kernel
theorem dX6_settle_8 : decode cX6_settle 8 = .ok (.invokevirtual 75, 3) := by decide +kernel
theorem dX6_settle_11 : decode cX6_settle 11 = .ok (.aload_n 0, 1) := by decide +kernel
theorem dX6_settle_12 : decode cX6_settle 12 = .ok (.getfield 78, 3) := by decide +kernel
theorem dX6_settle_15 : decode cX6_settle 15 = .ok (.iconst (-1), 1) := by decide +kernel
theorem dX6_settle_16 : decode cX6_settle 16 = .ok (.ixor, 1) := by decide +kernel
theorem dX6_settle_17 : decode cX6_settle 17 = .ok (.iand, 1) := by decide +kernel
theorem dX6_settle_18 : decode cX6_settle 18 = .ok (.istore_n 1, 1) := by decide +kernel
theorem dX6_settle_19 : decode cX6_settle 19 = .ok (.aload_n 0, 1) := by decide +kernel
theorem dX6_settle_20 : decode cX6_settle 20 = .ok (.getfield 40, 3) := by decide +kernel
theorem dX6_settle_23 : decode cX6_settle 23 = .ok (.aload_n 0, 1) := by decide +kernel
theorem dX6_settle_24 : decode cX6_settle 24 = .ok (.getfield 33, 3) := by decide +kernel
theorem dX6_settle_27 : decode cX6_settle 27 = .ok (.aload_n 0, 1) := by decide +kernel
theorem dX6_settle_28 : decode cX6_settle 28 = .ok (.getfield 16, 3) := by decide +kernel
theorem dX6_settle_31 : decode cX6_settle 31 = .ok (.iload_n 1, 1) := by decide +kernel
theorem dX6_settle_32 : decode cX6_settle 32 = .ok (.invokevirtual 91, 3) := by decide +kernel
theorem dX6_settle_35 : decode cX6_settle 35 = .ok (.putfield 88, 3) := by decide +kernel
theorem dX6_settle_38 : decode cX6_settle 38 = .ok (.aload_n 0, 1) := by decide +kernel
theorem dX6_settle_39 : decode cX6_settle 39 = .ok (.getfield 40, 3) := by decide +kernel
theorem dX6_settle_42 : decode cX6_settle 42 = .ok (.aload_n 0, 1) := by decide +kernel
theorem dX6_settle_43 : decode cX6_settle 43 = .ok (.getfield 40, 3) := by decide +kernel
theorem dX6_settle_46 : decode cX6_settle 46 = .ok (.getfield 88, 3) := by decide +kernel
theorem dX6_settle_49 : decode cX6_settle 49 = .ok (.bipush (-4), 2) := by decide +kernel
theorem dX6_settle_51 : decode cX6_settle 51 = .ok (.if_icmp .eq 8, 3) := by decide +kernel
theorem dX6_settle_54 : decode cX6_settle 54 = .ok (.bipush (-2), 2) := by decide +kernel
theorem dX6_settle_56 : decode cX6_settle 56 = .ok (.goto 19, 3) := by decide +kernel
theorem dX6_settle_59 : decode cX6_settle 59 = .ok (.aload_n 0, 1) := by decide +kernel
theorem dX6_settle_60 : decode cX6_settle 60 = .ok (.getfield 40, 3) := by decide +kernel
theorem dX6_settle_63 : decode cX6_settle 63 = .ok (.aload_n 0, 1) := by decide +kernel
theorem dX6_settle_64 : decode cX6_settle 64 = .ok (.getfield 33, 3) := by decide +kernel
theorem dX6_settle_67 : decode cX6_settle 67 = .ok (.aload_n 0, 1) := by decide +kernel
theorem dX6_settle_68 : decode cX6_settle 68 = .ok (.getfield 16, 3) := by decide +kernel
theorem dX6_settle_71 : decode cX6_settle 71 = .ok (.iload_n 1, 1) := by decide +kernel
theorem dX6_settle_72 : decode cX6_settle 72 = .ok (.invokevirtual 218, 3) := by decide +kernel
theorem dX6_settle_75 : decode cX6_settle 75 = .ok (.putfield 222, 3) := by decide +kernel
theorem dX6_settle_78 : decode cX6_settle 78 = .ok (.aload_n 0, 1) := by decide +kernel
theorem dX6_settle_79 : decode cX6_settle 79 = .ok (.getfield 49, 3) := by decide +kernel
theorem dX6_settle_82 : decode cX6_settle 82 = .ok (.invokevirtual 225, 3) := by decide +kernel
theorem dX6_settle_85 : decode cX6_settle 85 = .ok (.aload_n 0, 1) := by decide +kernel
theorem dX6_settle_86 : decode cX6_settle 86 = .ok (.iconst 1, 1) := by decide +kernel
theorem dX6_settle_87 : decode cX6_settle 87 = .ok (.putfield 81, 3) := by decide +kernel
theorem dX6_settle_90 : decode cX6_settle 90 = .ok (.aload_n 0, 1) := by decide +kernel
theorem dX6_settle_91 : decode cX6_settle 91 = .ok (.getfield 40, 3) := by decide +kernel
theorem dX6_settle_94 : decode cX6_settle 94 = .ok (.getfield 222, 3) := by decide +kernel
theorem dX6_settle_97 : decode cX6_settle 97 = .ok (.ireturn, 1) := by decide +kernel
theorem dX6_findClashes_0 : decode cX6_findClashes 0 = .ok (.iconst 0, 1) := by decide +kernel
theorem dX6_findClashes_1 : decode cX6_findClashes 1 = .ok (.istore_n 1, 1) := by decide +kernel
theorem dX6_findClashes_2 : decode cX6_findClashes 2 = .ok (.iload_n 1, 1) := by decide +kernel
theorem dX6_findClashes_3 : decode cX6_findClashes 3 = .ok (.aload_n 0, 1) := by decide +kernel
theorem dX6_findClashes_4 : decode cX6_findClashes 4 = .ok (.getfield 16, 3) := by decide +kernel
theorem dX6_findClashes_7 : decode cX6_findClashes 7 = .ok (.getfield 72, 3) := by decide +kernel
theorem dX6_findClashes_10 : decode cX6_findClashes 10 = .ok (.if_icmp .ge 64, 3) := by decide +kernel
theorem dX6_findClashes_13 : decode cX6_findClashes 13 = .ok (.aload_n 0, 1) := by decide +kernel
theorem dX6_findClashes_14 : decode cX6_findClashes 14 = .ok (.getfield 27, 3) := by decide +kernel
theorem dX6_findClashes_17 : decode cX6_findClashes 17 = .ok (.iload_n 1, 1) := by decide +kernel
theorem dX6_findClashes_18 : decode cX6_findClashes 18 = .ok (.iconst 0, 1) := by decide +kernel
theorem dX6_findClashes_19 : decode cX6_findClashes 19 = .ok (.iastore, 1) := by decide +kernel
theorem dX6_findClashes_20 : decode cX6_findClashes 20 = .ok (.iconst 0, 1) := by decide +kernel
theorem dX6_findClashes_21 : decode cX6_findClashes 21 = .ok (.istore_n 2, 1) := by decide +kernel
theorem dX6_findClashes_22 : decode cX6_findClashes 22 = .ok (.iload_n 2, 1) := by decide +kernel
theorem dX6_findClashes_23 : decode cX6_findClashes 23 = .ok (.iload_n 1, 1) := by decide +kernel
theorem dX6_findClashes_24 : decode cX6_findClashes 24 = .ok (.if_icmp .gt 44, 3) := by decide +kernel
theorem dX6_findClashes_27 : decode cX6_findClashes 27 = .ok (.aload_n 0, 1) := by decide +kernel
theorem dX6_findClashes_28 : decode cX6_findClashes 28 = .ok (.getfield 33, 3) := by decide +kernel
theorem dX6_findClashes_31 : decode cX6_findClashes 31 = .ok (.aload_n 0, 1) := by decide +kernel
theorem dX6_findClashes_32 : decode cX6_findClashes 32 = .ok (.getfield 16, 3) := by decide +kernel
theorem dX6_findClashes_35 : decode cX6_findClashes 35 = .ok (.iconst 1, 1) := by decide +kernel
theorem dX6_findClashes_36 : decode cX6_findClashes 36 = .ok (.iload_n 1, 1) := by decide +kernel
theorem dX6_findClashes_37 : decode cX6_findClashes 37 = .ok (.ishl, 1) := by decide +kernel
theorem dX6_findClashes_38 : decode cX6_findClashes 38 = .ok (.iconst 1, 1) := by decide +kernel
theorem dX6_findClashes_39 : decode cX6_findClashes 39 = .ok (.iload_n 2, 1) := by decide +kernel
theorem dX6_findClashes_40 : decode cX6_findClashes 40 = .ok (.ishl, 1) := by decide +kernel
theorem dX6_findClashes_41 : decode cX6_findClashes 41 = .ok (.ior, 1) := by decide +kernel
theorem dX6_findClashes_42 : decode cX6_findClashes 42 = .ok (.invokevirtual 91, 3) := by decide +kernel
theorem dX6_findClashes_45 : decode cX6_findClashes 45 = .ok (.bipush (-4), 2) := by decide +kernel
theorem dX6_findClashes_47 : decode cX6_findClashes 47 = .ok (.if_icmp .eq 15, 3) := by decide +kernel
theorem dX6_findClashes_50 : decode cX6_findClashes 50 = .ok (.aload_n 0, 1) := by decide +kernel
theorem dX6_findClashes_51 : decode cX6_findClashes 51 = .ok (.getfield 27, 3) := by decide +kernel
theorem dX6_findClashes_54 : decode cX6_findClashes 54 = .ok (.iload_n 1, 1) := by decide +kernel
theorem dX6_findClashes_55 : decode cX6_findClashes 55 = .ok (.dup2, 1) := by decide +kernel
theorem dX6_findClashes_56 : decode cX6_findClashes 56 = .ok (.iaload, 1) := by decide +kernel
theorem dX6_findClashes_57 : decode cX6_findClashes 57 = .ok (.iconst 1, 1) := by decide +kernel
theorem dX6_findClashes_58 : decode cX6_findClashes 58 = .ok (.iload_n 2, 1) := by decide +kernel
theorem dX6_findClashes_59 : decode cX6_findClashes 59 = .ok (.ishl, 1) := by decide +kernel
theorem dX6_findClashes_60 : decode cX6_findClashes 60 = .ok (.ior, 1) := by decide +kernel
theorem dX6_findClashes_61 : decode cX6_findClashes 61 = .ok (.iastore, 1) := by decide +kernel
theorem dX6_findClashes_62 : decode cX6_findClashes 62 = .ok (.iinc 2 1, 3) := by decide +kernel
theorem dX6_findClashes_65 : decode cX6_findClashes 65 = .ok (.goto (-43), 3) := by decide +kernel
theorem dX6_findClashes_68 : decode cX6_findClashes 68 = .ok (.iinc 1 1, 3) := by decide +kernel
theorem dX6_findClashes_71 : decode cX6_findClashes 71 = .ok (.goto (-69), 3) := by decide +kernel
theorem dX6_findClashes_74 : decode cX6_findClashes 74 = .ok (.return_, 1) := by decide +kernel
theorem dX6_firstSetThatHelps_0 : decode cX6_firstSetThatHelps 0 = .ok (.aload_n 0, 1) := by decide +kernel
theorem dX6_firstSetThatHelps_1 : decode cX6_firstSetThatHelps 1 = .ok (.invokevirtual 75, 3) := by decide +kernel
theorem dX6_firstSetThatHelps_4 : decode cX6_firstSetThatHelps 4 = .ok (.istore_n 1, 1) := by decide +kernel
theorem dX6_firstSetThatHelps_5 : decode cX6_firstSetThatHelps 5 = .ok (.iconst 1, 1) := by decide +kernel
theorem dX6_firstSetThatHelps_6 : decode cX6_firstSetThatHelps 6 = .ok (.istore_n 2, 1) := by decide +kernel
theorem dX6_firstSetThatHelps_7 : decode cX6_firstSetThatHelps 7 = .ok (.iload_n 2, 1) := by decide +kernel
theorem dX6_firstSetThatHelps_8 : decode cX6_firstSetThatHelps 8 = .ok (.aload_n 0, 1) := by decide +kernel
theorem dX6_firstSetThatHelps_9 : decode cX6_firstSetThatHelps 9 = .ok (.getfield 16, 3) := by decide +kernel
theorem dX6_firstSetThatHelps_12 : decode cX6_firstSetThatHelps 12 = .ok (.getfield 72, 3) := by decide +kernel
theorem dX6_firstSetThatHelps_15 : decode cX6_firstSetThatHelps 15 = .ok (.if_icmp .ge 66, 3) := by decide +kernel
theorem dX6_firstSetThatHelps_18 : decode cX6_firstSetThatHelps 18 = .ok (.iconst 1, 1) := by decide +kernel
theorem dX6_firstSetThatHelps_19 : decode cX6_firstSetThatHelps 19 = .ok (.istore_n 3, 1) := by decide +kernel
theorem dX6_firstSetThatHelps_20 : decode cX6_firstSetThatHelps 20 = .ok (.iload_n 3, 1) := by decide +kernel
theorem dX6_firstSetThatHelps_21 : decode cX6_firstSetThatHelps 21 = .ok (.iload_n 1, 1) := by decide +kernel
theorem dX6_firstSetThatHelps_22 : decode cX6_firstSetThatHelps 22 = .ok (.if_icmp .ge 53, 3) := by decide +kernel
theorem dX6_firstSetThatHelps_25 : decode cX6_firstSetThatHelps 25 = .ok (.iload_n 1, 1) := by decide +kernel
theorem dX6_firstSetThatHelps_26 : decode cX6_firstSetThatHelps 26 = .ok (.iload_n 3, 1) := by decide +kernel
theorem dX6_firstSetThatHelps_27 : decode cX6_firstSetThatHelps 27 = .ok (.iconst (-1), 1) := by decide +kernel
theorem dX6_firstSetThatHelps_28 : decode cX6_firstSetThatHelps 28 = .ok (.ixor, 1) := by decide +kernel
theorem dX6_firstSetThatHelps_29 : decode cX6_firstSetThatHelps 29 = .ok (.iand, 1) := by decide +kernel
theorem dX6_firstSetThatHelps_30 : decode cX6_firstSetThatHelps 30 = .ok (.istore 4, 2) := by decide +kernel
