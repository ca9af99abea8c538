theorem dX7_mayBeOne_29 : decode cX7_mayBeOne 29 = .ok (.if_icmp .ne 38, 3) := by decide +kernel
theorem dX7_mayBeOne_32 : decode cX7_mayBeOne 32 = .ok (.aload_n 0, 1) := by decide +kernel
theorem dX7_mayBeOne_33 : decode cX7_mayBeOne 33 = .ok (.getfield 64, 3) := by decide +kernel
theorem dX7_mayBeOne_36 : decode cX7_mayBeOne 36 = .ok (.iload 4, 2) := by decide +kernel
theorem dX7_mayBeOne_38 : decode cX7_mayBeOne 38 = .ok (.iaload, 1) := by decide +kernel
theorem dX7_mayBeOne_39 : decode cX7_mayBeOne 39 = .ok (.iload_n 2, 1) := by decide +kernel
theorem dX7_mayBeOne_40 : decode cX7_mayBeOne 40 = .ok (.if_icmp .ne 27, 3) := by decide +kernel
theorem dX7_mayBeOne_43 : decode cX7_mayBeOne 43 = .ok (.aload_n 0, 1) := by decide +kernel
theorem dX7_mayBeOne_44 : decode cX7_mayBeOne 44 = .ok (.invokevirtual 277, 3) := by decide +kernel
theorem dX7_mayBeOne_47 : decode cX7_mayBeOne 47 = .ok (.aload_n 0, 1) := by decide +kernel
theorem dX7_mayBeOne_48 : decode cX7_mayBeOne 48 = .ok (.iload_n 3, 1) := by decide +kernel
theorem dX7_mayBeOne_49 : decode cX7_mayBeOne 49 = .ok (.iload 4, 2) := by decide +kernel
theorem dX7_mayBeOne_51 : decode cX7_mayBeOne 51 = .ok (.invokevirtual 204, 3) := by decide +kernel
theorem dX7_mayBeOne_54 : decode cX7_mayBeOne 54 = .ok (.aload_n 0, 1) := by decide +kernel
theorem dX7_mayBeOne_55 : decode cX7_mayBeOne 55 = .ok (.invokevirtual 223, 3) := by decide +kernel
theorem dX7_mayBeOne_58 : decode cX7_mayBeOne 58 = .ok (.aload_n 0, 1) := by decide +kernel
theorem dX7_mayBeOne_59 : decode cX7_mayBeOne 59 = .ok (.invokevirtual 226, 3) := by decide +kernel
theorem dX7_mayBeOne_62 : decode cX7_mayBeOne 62 = .ok (.ifCond .ne 5, 3) := by decide +kernel
theorem dX7_mayBeOne_65 : decode cX7_mayBeOne 65 = .ok (.iconst 1, 1) := by decide +kernel
theorem dX7_mayBeOne_66 : decode cX7_mayBeOne 66 = .ok (.ireturn, 1) := by decide +kernel
theorem dX7_mayBeOne_67 : decode cX7_mayBeOne 67 = .ok (.iinc 4 1, 3) := by decide +kernel
theorem dX7_mayBeOne_70 : decode cX7_mayBeOne 70 = .ok (.goto (-57), 3) := by decide +kernel
theorem dX7_mayBeOne_73 : decode cX7_mayBeOne 73 = .ok (.iinc 3 1, 3) := by decide +kernel
theorem dX7_mayBeOne_76 : decode cX7_mayBeOne 76 = .ok (.goto (-74), 3) := by decide +kernel
theorem dX7_mayBeOne_79 : decode cX7_mayBeOne 79 = .ok (.iconst 0, 1) := by decide +kernel
theorem dX7_mayBeOne_80 : decode cX7_mayBeOne 80 = .ok (.ireturn, 1) := by decide +kernel
theorem dX7_may_0 : decode cX7_may 0 = .ok (.aload_n 0, 1) := by decide +kernel
theorem dX7_may_1 : decode cX7_may 1 = .ok (.invokevirtual 257, 3) := by decide +kernel
theorem dX7_may_4 : decode cX7_may 4 = .ok (.istore_n 3, 1) := by decide +kernel
theorem dX7_may_5 : decode cX7_may 5 = .ok (.iload_n 3, 1) := by decide +kernel
theorem dX7_may_6 : decode cX7_may 6 = .ok (.ifCond .ge 5, 3) := by decide +kernel
theorem dX7_may_9 : decode cX7_may 9 = .ok (.iload_n 3, 1) := by decide +kernel
theorem dX7_may_10 : decode cX7_may 10 = .ok (.ireturn, 1) := by decide +kernel
theorem dX7_may_11 : decode cX7_may 11 = .ok (.aload_n 0, 1) := by decide +kernel
theorem dX7_may_12 : decode cX7_may 12 = .ok (.iload_n 1, 1) := by decide +kernel
theorem dX7_may_13 : decode cX7_may 13 = .ok (.invokevirtual 265, 3) := by decide +kernel
theorem dX7_may_16 : decode cX7_may 16 = .ok (.ifCond .eq 11, 3) := by decide +kernel
theorem dX7_may_19 : decode cX7_may 19 = .ok (.aload_n 0, 1) := by decide +kernel
theorem dX7_may_20 : decode cX7_may 20 = .ok (.iload_n 2, 1) := by decide +kernel
theorem dX7_may_21 : decode cX7_may 21 = .ok (.invokevirtual 265, 3) := by decide +kernel
theorem dX7_may_24 : decode cX7_may 24 = .ok (.ifCond .ne 5, 3) := by decide +kernel
theorem dX7_may_27 : decode cX7_may 27 = .ok (.iconst (-1), 1) := by decide +kernel
theorem dX7_may_28 : decode cX7_may 28 = .ok (.ireturn, 1) := by decide +kernel
theorem dX7_may_29 : decode cX7_may 29 = .ok (.iload_n 1, 1) := by decide +kernel
theorem dX7_may_30 : decode cX7_may 30 = .ok (.iload_n 2, 1) := by decide +kernel
theorem dX7_may_31 : decode cX7_may 31 = .ok (.if_icmp .ne 7, 3) := by decide +kernel
theorem dX7_may_34 : decode cX7_may 34 = .ok (.iconst 2, 1) := by decide +kernel
theorem dX7_may_35 : decode cX7_may 35 = .ok (.goto 17, 3) := by decide +kernel
theorem dX7_may_38 : decode cX7_may 38 = .ok (.aload_n 0, 1) := by decide +kernel
theorem dX7_may_39 : decode cX7_may 39 = .ok (.iload_n 1, 1) := by decide +kernel
theorem dX7_may_40 : decode cX7_may 40 = .ok (.iload_n 2, 1) := by decide +kernel
theorem dX7_may_41 : decode cX7_may 41 = .ok (.invokevirtual 280, 3) := by decide +kernel
theorem dX7_may_44 : decode cX7_may 44 = .ok (.ifCond .eq 7, 3) := by decide +kernel
theorem dX7_may_47 : decode cX7_may 47 = .ok (.iconst 1, 1) := by decide +kernel
theorem dX7_may_48 : decode cX7_may 48 = .ok (.goto 4, 3) := by decide +kernel
theorem dX7_may_51 : decode cX7_may 51 = .ok (.iconst 0, 1) := by decide +kernel
theorem dX7_may_52 : decode cX7_may 52 = .ok (.ireturn, 1) := by decide +kernel
theorem dX7_pairs_0 : decode cX7_pairs 0 = .ok (.iload_n 1, 1) := by decide +kernel
theorem dX7_pairs_1 : decode cX7_pairs 1 = .ok (.iconst (-1), 1) := by decide +kernel
theorem dX7_pairs_2 : decode cX7_pairs 2 = .ok (.if_icmp .ge 5, 3) := by decide +kernel
theorem dX7_pairs_5 : decode cX7_pairs 5 = .ok (.iconst (-1), 1) := by decide +kernel
theorem dX7_pairs_6 : decode cX7_pairs 6 = .ok (.ireturn, 1) := by decide +kernel
theorem dX7_pairs_7 : decode cX7_pairs 7 = .ok (.aload_n 0, 1) := by decide +kernel
theorem dX7_pairs_8 : decode cX7_pairs 8 = .ok (.invokevirtual 257, 3) := by decide +kernel
theorem dX7_pairs_11 : decode cX7_pairs 11 = .ok (.istore_n 2, 1) := by decide +kernel
theorem dX7_pairs_12 : decode cX7_pairs 12 = .ok (.iload_n 2, 1) := by decide +kernel
theorem dX7_pairs_13 : decode cX7_pairs 13 = .ok (.ifCond .ge 5, 3) := by decide +kernel
theorem dX7_pairs_16 : decode cX7_pairs 16 = .ok (.iload_n 2, 1) := by decide +kernel
theorem dX7_pairs_17 : decode cX7_pairs 17 = .ok (.ireturn, 1) := by decide +kernel
theorem dX7_pairs_18 : decode cX7_pairs 18 = .ok (.iconst 0, 1) := by decide +kernel
theorem dX7_pairs_19 : decode cX7_pairs 19 = .ok (.istore_n 3, 1) := by decide +kernel
theorem dX7_pairs_20 : decode cX7_pairs 20 = .ok (.iconst 0, 1) := by decide +kernel
theorem dX7_pairs_21 : decode cX7_pairs 21 = .ok (.istore 4, 2) := by decide +kernel
theorem dX7_pairs_23 : decode cX7_pairs 23 = .ok (.iload 4, 2) := by decide +kernel
theorem dX7_pairs_25 : decode cX7_pairs 25 = .ok (.aload_n 0, 1) := by decide +kernel
theorem dX7_pairs_26 : decode cX7_pairs 26 = .ok (.getfield 239, 3) := by decide +kernel
theorem dX7_pairs_29 : decode cX7_pairs 29 = .ok (.if_icmp .ge 58, 3) := by decide +kernel
theorem dX7_pairs_32 : decode cX7_pairs 32 = .ok (.iload 4, 2) := by decide +kernel
theorem dX7_pairs_34 : decode cX7_pairs 34 = .ok (.iconst 1, 1) := by decide +kernel
theorem dX7_pairs_35 : decode cX7_pairs 35 = .ok (.iadd, 1) := by decide +kernel
theorem dX7_pairs_36 : decode cX7_pairs 36 = .ok (.istore 5, 2) := by decide +kernel
theorem dX7_pairs_38 : decode cX7_pairs 38 = .ok (.iload 5, 2) := by decide +kernel
theorem dX7_pairs_40 : decode cX7_pairs 40 = .ok (.aload_n 0, 1) := by decide +kernel
theorem dX7_pairs_41 : decode cX7_pairs 41 = .ok (.getfield 239, 3) := by decide +kernel
theorem dX7_pairs_44 : decode cX7_pairs 44 = .ok (.if_icmp .ge 37, 3) := by decide +kernel
theorem dX7_pairs_47 : decode cX7_pairs 47 = .ok (.aload_n 0, 1) := by decide +kernel
theorem dX7_pairs_48 : decode cX7_pairs 48 = .ok (.iload 4, 2) := by decide +kernel
theorem dX7_pairs_50 : decode cX7_pairs 50 = .ok (.iload 5, 2) := by decide +kernel
theorem dX7_pairs_52 : decode cX7_pairs 52 = .ok (.invokevirtual 280, 3) := by decide +kernel
theorem dX7_pairs_55 : decode cX7_pairs 55 = .ok (.ifCond .eq 20, 3) := by decide +kernel
theorem dX7_pairs_58 : decode cX7_pairs 58 = .ok (.iload_n 3, 1) := by decide +kernel
theorem dX7_pairs_59 : decode cX7_pairs 59 = .ok (.iload_n 1, 1) := by decide +kernel
theorem dX7_pairs_60 : decode cX7_pairs 60 = .ok (.if_icmp .ne 12, 3) := by decide +kernel
theorem dX7_pairs_63 : decode cX7_pairs 63 = .ok (.bipush 100, 2) := by decide +kernel
theorem dX7_pairs_65 : decode cX7_pairs 65 = .ok (.iload 4, 2) := by decide +kernel
theorem dX7_pairs_67 : decode cX7_pairs 67 = .ok (.imul, 1) := by decide +kernel
theorem dX7_pairs_68 : decode cX7_pairs 68 = .ok (.iload 5, 2) := by decide +kernel
theorem dX7_pairs_70 : decode cX7_pairs 70 = .ok (.iadd, 1) := by decide +kernel
theorem dX7_pairs_71 : decode cX7_pairs 71 = .ok (.ireturn, 1) := by decide +kernel
theorem dX7_pairs_72 : decode cX7_pairs 72 = .ok (.iinc 3 1, 3) := by decide +kernel
theorem dX7_pairs_75 : decode cX7_pairs 75 = .ok (.iinc 5 1, 3) := by decide +kernel
theorem dX7_pairs_78 : decode cX7_pairs 78 = .ok (.goto (-40), 3) := by decide +kernel
theorem dX7_pairs_81 : decode cX7_pairs 81 = .ok (.iinc 4 1, 3) := by decide +kernel
theorem dX7_pairs_84 : decode cX7_pairs 84 = .ok (.goto (-61), 3) := by decide +kernel
theorem dX7_pairs_87 : decode cX7_pairs 87 = .ok (.iload_n 1, 1) := by decide +kernel
theorem dX7_pairs_88 : decode cX7_pairs 88 = .ok (.ifCond .ge 7, 3) := by decide +kernel
theorem dX7_pairs_91 : decode cX7_pairs 91 = .ok (.iload_n 3, 1) := by decide +kernel
theorem dX7_pairs_92 : decode cX7_pairs 92 = .ok (.goto 5, 3) := by decide +kernel
theorem dX7_pairs_95 : decode cX7_pairs 95 = .ok (.bipush (-4), 2) := by decide +kernel
theorem dX7_pairs_97 : decode cX7_pairs 97 = .ok (.ireturn, 1) := by decide +kernel
theorem dX7_save_0 : decode cX7_save 0 = .ok (.iconst 0, 1) := by decide +kernel
theorem dX7_save_1 : decode cX7_save 1 = .ok (.istore_n 2, 1) := by decide +kernel
theorem dX7_save_2 : decode cX7_save 2 = .ok (.iload_n 2, 1) := by decide +kernel
theorem dX7_save_3 : decode cX7_save 3 = .ok (.aload_n 0, 1) := by decide +kernel
theorem dX7_save_4 : decode cX7_save 4 = .ok (.getfield 236, 3) := by decide +kernel
theorem dX7_save_7 : decode cX7_save 7 = .ok (.if_icmp .ge 77, 3) := by decide +kernel
theorem dX7_save_10 : decode cX7_save 10 = .ok (.aload_n 0, 1) := by decide +kernel
theorem dX7_save_11 : decode cX7_save 11 = .ok (.getfield 92, 3) := by decide +kernel
theorem dX7_save_14 : decode cX7_save 14 = .ok (.bipush 24, 2) := by decide +kernel
theorem dX7_save_16 : decode cX7_save 16 = .ok (.iload_n 1, 1) := by decide +kernel
theorem dX7_save_17 : decode cX7_save 17 = .ok (.imul, 1) := by decide +kernel
theorem dX7_save_18 : decode cX7_save 18 = .ok (.iload_n 2, 1) := by decide +kernel
theorem dX7_save_19 : decode cX7_save 19 = .ok (.iadd, 1) := by decide +kernel
theorem dX7_save_20 : decode cX7_save 20 = .ok (.aload_n 0, 1) := by decide +kernel
theorem dX7_save_21 : decode cX7_save 21 = .ok (.getfield 22, 3) := by decide +kernel
theorem dX7_save_24 : decode cX7_save 24 = .ok (.iload_n 2, 1) := by decide +kernel
theorem dX7_save_25 : decode cX7_save 25 = .ok (.iaload, 1) := by decide +kernel
theorem dX7_save_26 : decode cX7_save 26 = .ok (.iastore, 1) := by decide +kernel
theorem dX7_save_27 : decode cX7_save 27 = .ok (.aload_n 0, 1) := by decide +kernel
theorem dX7_save_28 : decode cX7_save 28 = .ok (.getfield 95, 3) := by decide +kernel
theorem dX7_save_31 : decode cX7_save 31 = .ok (.bipush 24, 2) := by decide +kernel
theorem dX7_save_33 : decode cX7_save 33 = .ok (.iload_n 1, 1) := by decide +kernel
theorem dX7_save_34 : decode cX7_save 34 = .ok (.imul, 1) := by decide +kernel
theorem dX7_save_35 : decode cX7_save 35 = .ok (.iload_n 2, 1) := by decide +kernel
theorem dX7_save_36 : decode cX7_save 36 = .ok (.iadd, 1) := by decide +kernel
theorem dX7_save_37 : decode cX7_save 37 = .ok (.aload_n 0, 1) := by decide +kernel
theorem dX7_save_38 : decode cX7_save 38 = .ok (.getfield 25, 3) := by decide +kernel
theorem dX7_save_41 : decode cX7_save 41 = .ok (.iload_n 2, 1) := by decide +kernel
theorem dX7_save_42 : decode cX7_save 42 = .ok (.iaload, 1) := by decide +kernel
theorem dX7_save_43 : decode cX7_save 43 = .ok (.iastore, 1) := by decide +kernel
theorem dX7_save_44 : decode cX7_save 44 = .ok (.aload_n 0, 1) := by decide +kernel
theorem dX7_save_45 : decode cX7_save 45 = .ok (.getfield 98, 3) := by decide +kernel
theorem dX7_save_48 : decode cX7_save 48 = .ok (.bipush 24, 2) := by decide +kernel
theorem dX7_save_50 : decode cX7_save 50 = .ok (.iload_n 1, 1) := by decide +kernel
theorem dX7_save_51 : decode cX7_save 51 = .ok (.imul, 1) := by decide +kernel
theorem dX7_save_52 : decode cX7_save 52 = .ok (.iload_n 2, 1) := by decide +kernel
theorem dX7_save_53 : decode cX7_save 53 = .ok (.iadd, 1) := by decide +kernel
theorem dX7_save_54 : decode cX7_save 54 = .ok (.aload_n 0, 1) := by decide +kernel
theorem dX7_save_55 : decode cX7_save 55 = .ok (.getfield 28, 3) := by decide +kernel
theorem dX7_save_58 : decode cX7_save 58 = .ok (.iload_n 2, 1) := by decide +kernel
theorem dX7_save_59 : decode cX7_save 59 = .ok (.iaload, 1) := by decide +kernel
theorem dX7_save_60 : decode cX7_save 60 = .ok (.iastore, 1) := by decide +kernel
theorem dX7_save_61 : decode cX7_save 61 = .ok (.aload_n 0, 1) := by decide +kernel
theorem dX7_save_62 : decode cX7_save 62 = .ok (.getfield 101, 3) := by decide +kernel
theorem dX7_save_65 : decode cX7_save 65 = .ok (.bipush 24, 2) := by decide +kernel
theorem dX7_save_67 : decode cX7_save 67 = .ok (.iload_n 1, 1) := by decide +kernel
theorem dX7_save_68 : decode cX7_save 68 = .ok (.imul, 1) := by decide +kernel
theorem dX7_save_69 : decode cX7_save 69 = .ok (.iload_n 2, 1) := by decide +kernel
theorem dX7_save_70 : decode cX7_save 70 = .ok (.iadd, 1) := by decide +kernel
theorem dX7_save_71 : decode cX7_save 71 = .ok (.aload_n 0, 1) := by decide +kernel
theorem dX7_save_72 : decode cX7_save 72 = .ok (.getfield 31, 3) := by decide +kernel
theorem dX7_save_75 : decode cX7_save 75 = .ok (.iload_n 2, 1) := by decide +kernel
theorem dX7_save_76 : decode cX7_save 76 = .ok (.iaload, 1) := by decide +kernel
theorem dX7_save_77 : decode cX7_save 77 = .ok (.iastore, 1) := by decide +kernel
theorem dX7_save_78 : decode cX7_save 78 = .ok (.iinc 2 1, 3) := by decide +kernel
theorem dX7_save_81 : decode cX7_save 81 = .ok (.goto (-79), 3) := by decide +kernel
theorem dX7_save_84 : decode cX7_save 84 = .ok (.aload_n 0, 1) := by decide +kernel
theorem dX7_save_85 : decode cX7_save 85 = .ok (.getfield 104, 3) := by decide +kernel
theorem dX7_save_88 : decode cX7_save 88 = .ok (.iload_n 1, 1) := by decide +kernel
theorem dX7_save_89 : decode cX7_save 89 = .ok (.iconst 0, 1) := by decide +kernel
theorem dX7_save_90 : decode cX7_save 90 = .ok (.iastore, 1) := by decide +kernel
theorem dX7_save_91 : decode cX7_save 91 = .ok (.return_, 1) := by decide +kernel
theorem dX7_loadFrom_0 : decode cX7_loadFrom 0 = .ok (.aload_n 0, 1) := by decide +kernel
theorem dX7_loadFrom_1 : decode cX7_loadFrom 1 = .ok (.aload_n 0, 1) := by decide +kernel
theorem dX7_loadFrom_2 : decode cX7_loadFrom 2 = .ok (.getfield 236, 3) := by decide +kernel
theorem dX7_loadFrom_5 : decode cX7_loadFrom 5 = .ok (.putfield 153, 3) := by decide +kernel
theorem dX7_loadFrom_8 : decode cX7_loadFrom 8 = .ok (.iconst 0, 1) := by decide +kernel
theorem dX7_loadFrom_9 : decode cX7_loadFrom 9 = .ok (.istore_n 2, 1) := by decide +kernel
theorem dX7_loadFrom_10 : decode cX7_loadFrom 10 = .ok (.iload_n 2, 1) := by decide +kernel
theorem dX7_loadFrom_11 : decode cX7_loadFrom 11 = .ok (.aload_n 0, 1) := by decide +kernel
theorem dX7_loadFrom_12 : decode cX7_loadFrom 12 = .ok (.getfield 236, 3) := by decide +kernel
theorem dX7_loadFrom_15 : decode cX7_loadFrom 15 = .ok (.if_icmp .ge 77, 3) := by decide +kernel
theorem dX7_loadFrom_18 : decode cX7_loadFrom 18 = .ok (.aload_n 0, 1) := by decide +kernel
theorem dX7_loadFrom_19 : decode cX7_loadFrom 19 = .ok (.getfield 22, 3) := by decide +kernel
theorem dX7_loadFrom_22 : decode cX7_loadFrom 22 = .ok (.iload_n 2, 1) := by decide +kernel
theorem dX7_loadFrom_23 : decode cX7_loadFrom 23 = .ok (.aload_n 0, 1) := by decide +kernel
theorem dX7_loadFrom_24 : decode cX7_loadFrom 24 = .ok (.getfield 92, 3) := by decide +kernel
theorem dX7_loadFrom_27 : decode cX7_loadFrom 27 = .ok (.bipush 24, 2) := by decide +kernel
theorem dX7_loadFrom_29 : decode cX7_loadFrom 29 = .ok (.iload_n 1, 1) := by decide +kernel
theorem dX7_loadFrom_30 : decode cX7_loadFrom 30 = .ok (.imul, 1) := by decide +kernel
theorem dX7_loadFrom_31 : decode cX7_loadFrom 31 = .ok (.iload_n 2, 1) := by decide +kernel
theorem dX7_loadFrom_32 : decode cX7_loadFrom 32 = .ok (.iadd, 1) := by decide +kernel
theorem dX7_loadFrom_33 : decode cX7_loadFrom 33 = .ok (.iaload, 1) := by decide +kernel
theorem dX7_loadFrom_34 : decode cX7_loadFrom 34 = .ok (.iastore, 1) := by decide +kernel
theorem dX7_loadFrom_35 : decode cX7_loadFrom 35 = .ok (.aload_n 0, 1) := by decide +kernel
theorem dX7_loadFrom_36 : decode cX7_loadFrom 36 = .ok (.getfield 25, 3) := by decide +kernel
theorem dX7_loadFrom_39 : decode cX7_loadFrom 39 = .ok (.iload_n 2, 1) := by decide +kernel
theorem dX7_loadFrom_40 : decode cX7_loadFrom 40 = .ok (.aload_n 0, 1) := by decide +kernel
theorem dX7_loadFrom_41 : decode cX7_loadFrom 41 = .ok (.getfield 95, 3) := by decide +kernel
theorem dX7_loadFrom_44 : decode cX7_loadFrom 44 = .ok (.bipush 24, 2) := by decide +kernel
theorem dX7_loadFrom_46 : decode cX7_loadFrom 46 = .ok (.iload_n 1, 1) := by decide +kernel
theorem dX7_loadFrom_47 : decode cX7_loadFrom 47 = .ok (.imul, 1) := by decide +kernel
theorem dX7_loadFrom_48 : decode cX7_loadFrom 48 = .ok (.iload_n 2, 1) := by decide +kernel
theorem dX7_loadFrom_49 : decode cX7_loadFrom 49 = .ok (.iadd, 1) := by decide +kernel
theorem dX7_loadFrom_50 : decode cX7_loadFrom 50 = .ok (.iaload, 1) := by decide +kernel
theorem dX7_loadFrom_51 : decode cX7_loadFrom 51 = .ok (.iastore, 1) := by decide +kernel
theorem dX7_loadFrom_52 : decode cX7_loadFrom 52 = .ok (.aload_n 0, 1) := by decide +kernel
theorem dX7_loadFrom_53 : decode cX7_loadFrom 53 = .ok (.getfield 28, 3) := by decide +kernel
theorem dX7_loadFrom_56 : decode cX7_loadFrom 56 = .ok (.iload_n 2, 1) := by decide +kernel
theorem dX7_loadFrom_57 : decode cX7_loadFrom 57 = .ok (.aload_n 0, 1) := by decide +kernel
theorem dX7_loadFrom_58 : decode cX7_loadFrom 58 = .ok (.getfield 98, 3) := by decide +kernel
theorem dX7_loadFrom_61 : decode cX7_loadFrom 61 = .ok (.bipush 24, 2) := by decide +kernel
theorem dX7_loadFrom_63 : decode cX7_loadFrom 63 = .ok (.iload_n 1, 1) := by decide +kernel
theorem dX7_loadFrom_64 : decode cX7_loadFrom 64 = .ok (.imul, 1) := by decide +kernel
theorem dX7_loadFrom_65 : decode cX7_loadFrom 65 = .ok (.iload_n 2, 1) := by decide +kernel
theorem dX7_loadFrom_66 : decode cX7_loadFrom 66 = .ok (.iadd, 1) := by decide +kernel
theorem dX7_loadFrom_67 : decode cX7_loadFrom 67 = .ok (.iaload, 1) := by decide +kernel
theorem dX7_loadFrom_68 : decode cX7_loadFrom 68 = .ok (.iastore, 1) := by decide +kernel
theorem dX7_loadFrom_69 : decode cX7_loadFrom 69 = .ok (.aload_n 0, 1) := by decide +kernel
theorem dX7_loadFrom_70 : decode cX7_loadFrom 70 = .ok (.getfield 31, 3) := by decide +kernel
theorem dX7_loadFrom_73 : decode cX7_loadFrom 73 = .ok (.iload_n 2, 1) := by decide +kernel
theorem dX7_loadFrom_74 : decode cX7_loadFrom 74 = .ok (.aload_n 0, 1) := by decide +kernel
theorem dX7_loadFrom_75 : decode cX7_loadFrom 75 = .ok (.getfield 101, 3) := by decide +kernel
theorem dX7_loadFrom_78 : decode cX7_loadFrom 78 = .ok (.bipush 24, 2) := by decide +kernel
theorem dX7_loadFrom_80 : decode cX7_loadFrom 80 = .ok (.iload_n 1, 1) := by decide +kernel
theorem dX7_loadFrom_81 : decode cX7_loadFrom 81 = .ok (.imul, 1) := by decide +kernel
theorem dX7_loadFrom_82 : decode cX7_loadFrom 82 = .ok (.iload_n 2, 1) := by decide +kernel
theorem dX7_loadFrom_83 : decode cX7_loadFrom 83 = .ok (.iadd, 1) := by decide +kernel
theorem dX7_loadFrom_84 : decode cX7_loadFrom 84 = .ok (.iaload, 1) := by decide +kernel
theorem dX7_loadFrom_85 : decode cX7_loadFrom 85 = .ok (.iastore, 1) := by decide +kernel
theorem dX7_loadFrom_86 : decode cX7_loadFrom 86 = .ok (.iinc 2 1, 3) := by decide +kernel
theorem dX7_loadFrom_89 : decode cX7_loadFrom 89 = .ok (.goto (-79), 3) := by decide +kernel
theorem dX7_loadFrom_92 : decode cX7_loadFrom 92 = .ok (.aload_n 0, 1) := by decide +kernel
theorem dX7_loadFrom_93 : decode cX7_loadFrom 93 = .ok (.invokevirtual 223, 3) := by decide +kernel
theorem dX7_loadFrom_96 : decode cX7_loadFrom 96 = .ok (.return_, 1) := by decide +kernel
theorem dX7_smallest_0 : decode cX7_smallest 0 = .ok (.aload_n 0, 1) := by decide +kernel
theorem dX7_smallest_1 : decode cX7_smallest 1 = .ok (.invokevirtual 257, 3) := by decide +kernel
theorem dX7_smallest_4 : decode cX7_smallest 4 = .ok (.istore_n 1, 1) := by decide +kernel
theorem dX7_smallest_5 : decode cX7_smallest 5 = .ok (.iload_n 1, 1) := by decide +kernel
theorem dX7_smallest_6 : decode cX7_smallest 6 = .ok (.ifCond .ge 5, 3) := by decide +kernel
theorem dX7_smallest_9 : decode cX7_smallest 9 = .ok (.iload_n 1, 1) := by decide +kernel
theorem dX7_smallest_10 : decode cX7_smallest 10 = .ok (.ireturn, 1) := by decide +kernel
theorem dX7_smallest_11 : decode cX7_smallest 11 = .ok (.aload_n 0, 1) := by decide +kernel
theorem dX7_smallest_12 : decode cX7_smallest 12 = .ok (.getfield 239, 3) := by decide +kernel
theorem dX7_smallest_15 : decode cX7_smallest 15 = .ok (.iconst 4, 1) := by decide +kernel
theorem dX7_smallest_16 : decode cX7_smallest 16 = .ok (.if_icmp .gt 12, 3) := by decide +kernel
theorem dX7_smallest_19 : decode cX7_smallest 19 = .ok (.aload_n 0, 1) := by decide +kernel
theorem dX7_smallest_20 : decode cX7_smallest 20 = .ok (.getfield 236, 3) := by decide +kernel
theorem dX7_smallest_23 : decode cX7_smallest 23 = .ok (.bipush 24, 2) := by decide +kernel
theorem dX7_smallest_25 : decode cX7_smallest 25 = .ok (.if_icmp .le 6, 3) := by decide +kernel
theorem dX7_smallest_28 : decode cX7_smallest 28 = .ok (.bipush (-2), 2) := by decide +kernel
theorem dX7_smallest_30 : decode cX7_smallest 30 = .ok (.ireturn, 1) := by decide +kernel
theorem dX7_smallest_31 : decode cX7_smallest 31 = .ok (.aload_n 0, 1) := by decide +kernel
theorem dX7_smallest_32 : decode cX7_smallest 32 = .ok (.invokevirtual 277, 3) := by decide +kernel
theorem dX7_smallest_35 : decode cX7_smallest 35 = .ok (.aload_n 0, 1) := by decide +kernel
theorem dX7_smallest_36 : decode cX7_smallest 36 = .ok (.iconst 0, 1) := by decide +kernel
theorem dX7_smallest_37 : decode cX7_smallest 37 = .ok (.invokevirtual 283, 3) := by decide +kernel
theorem dX7_smallest_40 : decode cX7_smallest 40 = .ok (.aload_n 0, 1) := by decide +kernel
theorem dX7_smallest_41 : decode cX7_smallest 41 = .ok (.getfield 239, 3) := by decide +kernel
theorem dX7_smallest_44 : decode cX7_smallest 44 = .ok (.istore_n 2, 1) := by decide +kernel
theorem dX7_smallest_45 : decode cX7_smallest 45 = .ok (.iconst 0, 1) := by decide +kernel
theorem dX7_smallest_46 : decode cX7_smallest 46 = .ok (.istore_n 3, 1) := by decide +kernel
theorem dX7_smallest_47 : decode cX7_smallest 47 = .ok (.iload_n 3, 1) := by decide +kernel
theorem dX7_smallest_48 : decode cX7_smallest 48 = .ok (.ifCond .lt 184, 3) := by decide +kernel
theorem dX7_smallest_51 : decode cX7_smallest 51 = .ok (.iload_n 2, 1) := by decide +kernel
theorem dX7_smallest_52 : decode cX7_smallest 52 = .ok (.iconst 1, 1) := by decide +kernel
theorem dX7_smallest_53 : decode cX7_smallest 53 = .ok (.if_icmp .le 179, 3) := by decide +kernel
theorem dX7_smallest_56 : decode cX7_smallest 56 = .ok (.aload_n 0, 1) := by decide +kernel
theorem dX7_smallest_57 : decode cX7_smallest 57 = .ok (.getfield 104, 3) := by decide +kernel
theorem dX7_smallest_60 : decode cX7_smallest 60 = .ok (.iload_n 3, 1) := by decide +kernel
theorem dX7_smallest_61 : decode cX7_smallest 61 = .ok (.iaload, 1) := by decide +kernel
theorem dX7_smallest_62 : decode cX7_smallest 62 = .ok (.istore 4, 2) := by decide +kernel
theorem dX7_smallest_64 : decode cX7_smallest 64 = .ok (.aload_n 0, 1) := by decide +kernel
theorem dX7_smallest_65 : decode cX7_smallest 65 = .ok (.getfield 104, 3) := by decide +kernel
theorem dX7_smallest_68 : decode cX7_smallest 68 = .ok (.iload_n 3, 1) := by decide +kernel
theorem dX7_smallest_69 : decode cX7_smallest 69 = .ok (.dup2, 1) := by decide +kernel
theorem dX7_smallest_70 : decode cX7_smallest 70 = .ok (.iaload, 1) := by decide +kernel
theorem dX7_smallest_71 : decode cX7_smallest 71 = .ok (.iconst 1, 1) := by decide +kernel
theorem dX7_smallest_72 : decode cX7_smallest 72 = .ok (.iadd, 1) := by decide +kernel
theorem dX7_smallest_73 : decode cX7_smallest 73 = .ok (.iastore, 1) := by decide +kernel
theorem dX7_smallest_74 : decode cX7_smallest 74 = .ok (.iload 4, 2) := by decide +kernel
theorem dX7_smallest_76 : decode cX7_smallest 76 = .ok (.aload_n 0, 1) := by decide +kernel
theorem dX7_smallest_77 : decode cX7_smallest 77 = .ok (.getfield 236, 3) := by decide +kernel
theorem dX7_smallest_80 : decode cX7_smallest 80 = .ok (.aload_n 0, 1) := by decide +kernel
theorem dX7_smallest_81 : decode cX7_smallest 81 = .ok (.getfield 236, 3) := by decide +kernel
theorem dX7_smallest_84 : decode cX7_smallest 84 = .ok (.imul, 1) := by decide +kernel
theorem dX7_smallest_85 : decode cX7_smallest 85 = .ok (.if_icmp .ne 9, 3) := by decide +kernel
theorem dX7_smallest_88 : decode cX7_smallest 88 = .ok (.iinc 3 (-1), 3) := by decide +kernel
theorem dX7_smallest_91 : decode cX7_smallest 91 = .ok (.goto 138, 3) := by decide +kernel
theorem dX7_smallest_94 : decode cX7_smallest 94 = .ok (.iload 4, 2) := by decide +kernel
theorem dX7_smallest_96 : decode cX7_smallest 96 = .ok (.aload_n 0, 1) := by decide +kernel
theorem dX7_smallest_97 : decode cX7_smallest 97 = .ok (.getfield 236, 3) := by decide +kernel
theorem dX7_smallest_100 : decode cX7_smallest 100 = .ok (.idiv, 1) := by decide +kernel
theorem dX7_smallest_101 : decode cX7_smallest 101 = .ok (.istore 5, 2) := by decide +kernel
theorem dX7_smallest_103 : decode cX7_smallest 103 = .ok (.iload 4, 2) := by decide +kernel
theorem dX7_smallest_105 : decode cX7_smallest 105 = .ok (.aload_n 0, 1) := by decide +kernel
theorem dX7_smallest_106 : decode cX7_smallest 106 = .ok (.getfield 236, 3) := by decide +kernel
theorem dX7_smallest_109 : decode cX7_smallest 109 = .ok (.irem, 1) := by decide +kernel
theorem dX7_smallest_110 : decode cX7_smallest 110 = .ok (.istore 6, 2) := by decide +kernel
theorem dX7_smallest_112 : decode cX7_smallest 112 = .ok (.aload_n 0, 1) := by decide +kernel
theorem dX7_smallest_113 : decode cX7_smallest 113 = .ok (.iload_n 3, 1) := by decide +kernel
theorem dX7_smallest_114 : decode cX7_smallest 114 = .ok (.invokevirtual 286, 3) := by decide +kernel
theorem dX7_smallest_117 : decode cX7_smallest 117 = .ok (.iload 5, 2) := by decide +kernel
theorem dX7_smallest_119 : decode cX7_smallest 119 = .ok (.iload 6, 2) := by decide +kernel
theorem dX7_smallest_121 : decode cX7_smallest 121 = .ok (.if_icmp .ge 48, 3) := by decide +kernel
theorem dX7_smallest_124 : decode cX7_smallest 124 = .ok (.aload_n 0, 1) := by decide +kernel
theorem dX7_smallest_125 : decode cX7_smallest 125 = .ok (.getfield 22, 3) := by decide +kernel
theorem dX7_smallest_128 : decode cX7_smallest 128 = .ok (.iload 5, 2) := by decide +kernel
theorem dX7_smallest_130 : decode cX7_smallest 130 = .ok (.iaload, 1) := by decide +kernel
theorem dX7_smallest_131 : decode cX7_smallest 131 = .ok (.iload 5, 2) := by decide +kernel
theorem dX7_smallest_133 : decode cX7_smallest 133 = .ok (.if_icmp .ne 36, 3) := by decide +kernel
theorem dX7_smallest_136 : decode cX7_smallest 136 = .ok (.aload_n 0, 1) := by decide +kernel
theorem dX7_smallest_137 : decode cX7_smallest 137 = .ok (.getfield 22, 3) := by decide +kernel
theorem dX7_smallest_140 : decode cX7_smallest 140 = .ok (.iload 6, 2) := by decide +kernel
theorem dX7_smallest_142 : decode cX7_smallest 142 = .ok (.iaload, 1) := by decide +kernel
theorem dX7_smallest_143 : decode cX7_smallest 143 = .ok (.iload 6, 2) := by decide +kernel
theorem dX7_smallest_145 : decode cX7_smallest 145 = .ok (.if_icmp .ne 24, 3) := by decide +kernel
theorem dX7_smallest_148 : decode cX7_smallest 148 = .ok (.aload_n 0, 1) := by decide +kernel
theorem dX7_smallest_149 : decode cX7_smallest 149 = .ok (.getfield 52, 3) := by decide +kernel
theorem dX7_smallest_152 : decode cX7_smallest 152 = .ok (.iload 5, 2) := by decide +kernel
theorem dX7_smallest_154 : decode cX7_smallest 154 = .ok (.iaload, 1) := by decide +kernel
theorem dX7_smallest_155 : decode cX7_smallest 155 = .ok (.aload_n 0, 1) := by decide +kernel
theorem dX7_smallest_156 : decode cX7_smallest 156 = .ok (.getfield 52, 3) := by decide +kernel
theorem dX7_smallest_159 : decode cX7_smallest 159 = .ok (.iload 6, 2) := by decide +kernel
theorem dX7_smallest_161 : decode cX7_smallest 161 = .ok (.iaload, 1) := by decide +kernel
theorem dX7_smallest_162 : decode cX7_smallest 162 = .ok (.if_icmp .eq 7, 3) := by decide +kernel
theorem dX7_smallest_165 : decode cX7_smallest 165 = .ok (.iconst 1, 1) := by decide +kernel
theorem dX7_smallest_166 : decode cX7_smallest 166 = .ok (.goto 4, 3) := by decide +kernel
theorem dX7_smallest_169 : decode cX7_smallest 169 = .ok (.iconst 0, 1) := by decide +kernel
theorem dX7_smallest_170 : decode cX7_smallest 170 = .ok (.istore 7, 2) := by decide +kernel
theorem dX7_smallest_172 : decode cX7_smallest 172 = .ok (.iload 7, 2) := by decide +kernel
theorem dX7_smallest_174 : decode cX7_smallest 174 = .ok (.ifCond .eq 55, 3) := by decide +kernel
theorem dX7_smallest_177 : decode cX7_smallest 177 = .ok (.aload_n 0, 1) := by decide +kernel
theorem dX7_smallest_178 : decode cX7_smallest 178 = .ok (.iload 5, 2) := by decide +kernel
theorem dX7_smallest_180 : decode cX7_smallest 180 = .ok (.iload 6, 2) := by decide +kernel
theorem dX7_smallest_182 : decode cX7_smallest 182 = .ok (.invokevirtual 204, 3) := by decide +kernel
theorem dX7_smallest_185 : decode cX7_smallest 185 = .ok (.aload_n 0, 1) := by decide +kernel
theorem dX7_smallest_186 : decode cX7_smallest 186 = .ok (.invokevirtual 223, 3) := by decide +kernel
theorem dX7_smallest_189 : decode cX7_smallest 189 = .ok (.aload_n 0, 1) := by decide +kernel
theorem dX7_smallest_190 : decode cX7_smallest 190 = .ok (.invokevirtual 226, 3) := by decide +kernel
theorem dX7_smallest_193 : decode cX7_smallest 193 = .ok (.ifCond .ne 36, 3) := by decide +kernel
theorem dX7_smallest_196 : decode cX7_smallest 196 = .ok (.aload_n 0, 1) := by decide +kernel
theorem dX7_smallest_197 : decode cX7_smallest 197 = .ok (.getfield 210, 3) := by decide +kernel
theorem dX7_smallest_200 : decode cX7_smallest 200 = .ok (.iload_n 2, 1) := by decide +kernel
theorem dX7_smallest_201 : decode cX7_smallest 201 = .ok (.if_icmp .ge 10, 3) := by decide +kernel
theorem dX7_smallest_204 : decode cX7_smallest 204 = .ok (.aload_n 0, 1) := by decide +kernel
theorem dX7_smallest_205 : decode cX7_smallest 205 = .ok (.getfield 210, 3) := by decide +kernel
theorem dX7_smallest_208 : decode cX7_smallest 208 = .ok (.goto 4, 3) := by decide +kernel
theorem dX7_smallest_211 : decode cX7_smallest 211 = .ok (.iload_n 2, 1) := by decide +kernel
theorem dX7_smallest_212 : decode cX7_smallest 212 = .ok (.istore_n 2, 1) := by decide +kernel
theorem dX7_smallest_213 : decode cX7_smallest 213 = .ok (.aload_n 0, 1) := by decide +kernel
theorem dX7_smallest_214 : decode cX7_smallest 214 = .ok (.getfield 210, 3) := by decide +kernel
theorem dX7_smallest_217 : decode cX7_smallest 217 = .ok (.iconst 1, 1) := by decide +kernel
theorem dX7_smallest_218 : decode cX7_smallest 218 = .ok (.if_icmp .le 11, 3) := by decide +kernel
theorem dX7_smallest_221 : decode cX7_smallest 221 = .ok (.iinc 3 1, 3) := by decide +kernel
theorem dX7_smallest_224 : decode cX7_smallest 224 = .ok (.aload_n 0, 1) := by decide +kernel
theorem dX7_smallest_225 : decode cX7_smallest 225 = .ok (.iload_n 3, 1) := by decide +kernel
theorem dX7_smallest_226 : decode cX7_smallest 226 = .ok (.invokevirtual 283, 3) := by decide +kernel
theorem dX7_smallest_229 : decode cX7_smallest 229 = .ok (.goto (-182), 3) := by decide +kernel
theorem dX7_smallest_232 : decode cX7_smallest 232 = .ok (.iload_n 2, 1) := by decide +kernel
theorem dX7_smallest_233 : decode cX7_smallest 233 = .ok (.ireturn, 1) := by decide +kernel
theorem dX7_townGoOn_0 : decode cX7_townGoOn 0 = .ok (.iload_n 1, 1) := by decide +kernel
theorem dX7_townGoOn_1 : decode cX7_townGoOn 1 = .ok (.istore_n 3, 1) := by decide +kernel
theorem dX7_townGoOn_2 : decode cX7_townGoOn 2 = .ok (.iconst 0, 1) := by decide +kernel
theorem dX7_townGoOn_3 : decode cX7_townGoOn 3 = .ok (.istore 4, 2) := by decide +kernel
theorem dX7_townGoOn_5 : decode cX7_townGoOn 5 = .ok (.iload 4, 2) := by decide +kernel
theorem dX7_townGoOn_7 : decode cX7_townGoOn 7 = .ok (.iload_n 2, 1) := by decide +kernel
theorem dX7_townGoOn_8 : decode cX7_townGoOn 8 = .ok (.if_icmp .ge 20, 3) := by decide +kernel
theorem dX7_townGoOn_11 : decode cX7_townGoOn 11 = .ok (.iload_n 3, 1) := by decide +kernel
theorem dX7_townGoOn_12 : decode cX7_townGoOn 12 = .ok (.ifCond .lt 16, 3) := by decide +kernel
theorem dX7_townGoOn_15 : decode cX7_townGoOn 15 = .ok (.aload_n 0, 1) := by decide +kernel
theorem dX7_townGoOn_16 : decode cX7_townGoOn 16 = .ok (.getfield 55, 3) := by decide +kernel
theorem dX7_townGoOn_19 : decode cX7_townGoOn 19 = .ok (.iload_n 3, 1) := by decide +kernel
theorem dX7_townGoOn_20 : decode cX7_townGoOn 20 = .ok (.iaload, 1) := by decide +kernel
theorem dX7_townGoOn_21 : decode cX7_townGoOn 21 = .ok (.istore_n 3, 1) := by decide +kernel
theorem dX7_townGoOn_22 : decode cX7_townGoOn 22 = .ok (.iinc 4 1, 3) := by decide +kernel
theorem dX7_townGoOn_25 : decode cX7_townGoOn 25 = .ok (.goto (-20), 3) := by decide +kernel
theorem dX7_townGoOn_28 : decode cX7_townGoOn 28 = .ok (.iload_n 3, 1) := by decide +kernel
theorem dX7_townGoOn_29 : decode cX7_townGoOn 29 = .ok (.ireturn, 1) := by decide +kernel
theorem dX7_takes_0 : decode cX7_takes 0 = .ok (.aload_n 0, 1) := by decide +kernel
theorem dX7_takes_1 : decode cX7_takes 1 = .ok (.iload_n 1, 1) := by decide +kernel
theorem dX7_takes_2 : decode cX7_takes 2 = .ok (.iload_n 2, 1) := by decide +kernel
theorem dX7_takes_3 : decode cX7_takes 3 = .ok (.invokevirtual 289, 3) := by decide +kernel
theorem dX7_takes_6 : decode cX7_takes 6 = .ok (.istore_n 3, 1) := by decide +kernel
theorem dX7_takes_7 : decode cX7_takes 7 = .ok (.iload_n 3, 1) := by decide +kernel
theorem dX7_takes_8 : decode cX7_takes 8 = .ok (.ifCond .lt 12, 3) := by decide +kernel
theorem dX7_takes_11 : decode cX7_takes 11 = .ok (.iload_n 2, 1) := by decide +kernel
theorem dX7_takes_12 : decode cX7_takes 12 = .ok (.ifCond .le 13, 3) := by decide +kernel
theorem dX7_takes_15 : decode cX7_takes 15 = .ok (.iload_n 3, 1) := by decide +kernel
theorem dX7_takes_16 : decode cX7_takes 16 = .ok (.iload_n 1, 1) := by decide +kernel
theorem dX7_takes_17 : decode cX7_takes 17 = .ok (.if_icmp .ne 8, 3) := by decide +kernel
theorem dX7_takes_20 : decode cX7_takes 20 = .ok (.bipush (-4), 2) := by decide +kernel
theorem dX7_takes_22 : decode cX7_takes 22 = .ok (.goto 9, 3) := by decide +kernel
theorem dX7_takes_25 : decode cX7_takes 25 = .ok (.aload_n 0, 1) := by decide +kernel
theorem dX7_takes_26 : decode cX7_takes 26 = .ok (.getfield 61, 3) := by decide +kernel
theorem dX7_takes_29 : decode cX7_takes 29 = .ok (.iload_n 3, 1) := by decide +kernel
theorem dX7_takes_30 : decode cX7_takes 30 = .ok (.iaload, 1) := by decide +kernel
theorem dX7_takes_31 : decode cX7_takes 31 = .ok (.ireturn, 1) := by decide +kernel
theorem dX7_way_0 : decode cX7_way 0 = .ok (.iload_n 1, 1) := by decide +kernel
theorem dX7_way_1 : decode cX7_way 1 = .ok (.i2l, 1) := by decide +kernel
theorem dX7_way_2 : decode cX7_way 2 = .ok (.lconst 0, 1) := by decide +kernel
theorem dX7_way_3 : decode cX7_way 3 = .ok (.ldc2_w 292, 3) := by decide +kernel
theorem dX7_way_6 : decode cX7_way 6 = .ok (.invokestatic 118, 3) := by decide +kernel
theorem dX7_way_9 : decode cX7_way 9 = .ok (.ifCond .eq 8, 3) := by decide +kernel
theorem dX7_way_12 : decode cX7_way 12 = .ok (.iload_n 3, 1) := by decide +kernel
theorem dX7_way_13 : decode cX7_way 13 = .ok (.iconst (-1), 1) := by decide +kernel
theorem dX7_way_14 : decode cX7_way 14 = .ok (.if_icmp .ge 5, 3) := by decide +kernel
theorem dX7_way_17 : decode cX7_way 17 = .ok (.iconst (-1), 1) := by decide +kernel
theorem dX7_way_18 : decode cX7_way 18 = .ok (.ireturn, 1) := by decide +kernel
theorem dX7_way_19 : decode cX7_way 19 = .ok (.aload_n 0, 1) := by decide +kernel
theorem dX7_way_20 : decode cX7_way 20 = .ok (.invokevirtual 257, 3) := by decide +kernel
theorem dX7_way_23 : decode cX7_way 23 = .ok (.istore 4, 2) := by decide +kernel
theorem dX7_way_25 : decode cX7_way 25 = .ok (.iload 4, 2) := by decide +kernel
theorem dX7_way_27 : decode cX7_way 27 = .ok (.ifCond .ge 6, 3) := by decide +kernel
theorem dX7_way_30 : decode cX7_way 30 = .ok (.iload 4, 2) := by decide +kernel
theorem dX7_way_32 : decode cX7_way 32 = .ok (.ireturn, 1) := by decide +kernel
theorem dX7_way_33 : decode cX7_way 33 = .ok (.aload_n 0, 1) := by decide +kernel
theorem dX7_way_34 : decode cX7_way 34 = .ok (.iload_n 2, 1) := by decide +kernel
theorem dX7_way_35 : decode cX7_way 35 = .ok (.invokevirtual 265, 3) := by decide +kernel
theorem dX7_way_38 : decode cX7_way 38 = .ok (.ifCond .ne 5, 3) := by decide +kernel
theorem dX7_way_41 : decode cX7_way 41 = .ok (.iconst (-1), 1) := by decide +kernel
theorem dX7_way_42 : decode cX7_way 42 = .ok (.ireturn, 1) := by decide +kernel
theorem dX7_way_43 : decode cX7_way 43 = .ok (.aload_n 0, 1) := by decide +kernel
theorem dX7_way_44 : decode cX7_way 44 = .ok (.getfield 67, 3) := by decide +kernel
theorem dX7_way_47 : decode cX7_way 47 = .ok (.iload_n 1, 1) := by decide +kernel
theorem dX7_way_48 : decode cX7_way 48 = .ok (.iaload, 1) := by decide +kernel
theorem dX7_way_49 : decode cX7_way 49 = .ok (.ifCond .ge 6, 3) := by decide +kernel
theorem dX7_way_52 : decode cX7_way 52 = .ok (.bipush (-4), 2) := by decide +kernel
theorem dX7_way_54 : decode cX7_way 54 = .ok (.ireturn, 1) := by decide +kernel
theorem dX7_way_55 : decode cX7_way 55 = .ok (.iconst 0, 1) := by decide +kernel
theorem dX7_way_56 : decode cX7_way 56 = .ok (.istore 5, 2) := by decide +kernel
theorem dX7_way_58 : decode cX7_way 58 = .ok (.iload 5, 2) := by decide +kernel
theorem dX7_way_60 : decode cX7_way 60 = .ok (.aload_n 0, 1) := by decide +kernel
theorem dX7_way_61 : decode cX7_way 61 = .ok (.getfield 236, 3) := by decide +kernel
theorem dX7_way_64 : decode cX7_way 64 = .ok (.if_icmp .ge 18, 3) := by decide +kernel
theorem dX7_way_67 : decode cX7_way 67 = .ok (.aload_n 0, 1) := by decide +kernel
theorem dX7_way_68 : decode cX7_way 68 = .ok (.getfield 113, 3) := by decide +kernel
theorem dX7_way_71 : decode cX7_way 71 = .ok (.iload 5, 2) := by decide +kernel
theorem dX7_way_73 : decode cX7_way 73 = .ok (.bipush (-4), 2) := by decide +kernel
theorem dX7_way_75 : decode cX7_way 75 = .ok (.iastore, 1) := by decide +kernel
theorem dX7_way_76 : decode cX7_way 76 = .ok (.iinc 5 1, 3) := by decide +kernel
theorem dX7_way_79 : decode cX7_way 79 = .ok (.goto (-21), 3) := by decide +kernel
theorem dX7_way_82 : decode cX7_way 82 = .ok (.aload_n 0, 1) := by decide +kernel
theorem dX7_way_83 : decode cX7_way 83 = .ok (.getfield 107, 3) := by decide +kernel
theorem dX7_way_86 : decode cX7_way 86 = .ok (.iconst 0, 1) := by decide +kernel
theorem dX7_way_87 : decode cX7_way 87 = .ok (.aload_n 0, 1) := by decide +kernel
theorem dX7_way_88 : decode cX7_way 88 = .ok (.getfield 67, 3) := by decide +kernel
theorem dX7_way_91 : decode cX7_way 91 = .ok (.iload_n 1, 1) := by decide +kernel
theorem dX7_way_92 : decode cX7_way 92 = .ok (.iaload, 1) := by decide +kernel
theorem dX7_way_93 : decode cX7_way 93 = .ok (.iastore, 1) := by decide +kernel
theorem dX7_way_94 : decode cX7_way 94 = .ok (.aload_n 0, 1) := by decide +kernel
theorem dX7_way_95 : decode cX7_way 95 = .ok (.getfield 113, 3) := by decide +kernel
theorem dX7_way_98 : decode cX7_way 98 = .ok (.aload_n 0, 1) := by decide +kernel
theorem dX7_way_99 : decode cX7_way 99 = .ok (.getfield 107, 3) := by decide +kernel
theorem dX7_way_102 : decode cX7_way 102 = .ok (.iconst 0, 1) := by decide +kernel
theorem dX7_way_103 : decode cX7_way 103 = .ok (.iaload, 1) := by decide +kernel
theorem dX7_way_104 : decode cX7_way 104 = .ok (.iconst 0, 1) := by decide +kernel
theorem dX7_way_105 : decode cX7_way 105 = .ok (.iastore, 1) := by decide +kernel
theorem dX7_way_106 : decode cX7_way 106 = .ok (.iconst 1, 1) := by decide +kernel
theorem dX7_way_107 : decode cX7_way 107 = .ok (.istore 5, 2) := by decide +kernel
theorem dX7_way_109 : decode cX7_way 109 = .ok (.bipush (-4), 2) := by decide +kernel
theorem dX7_way_111 : decode cX7_way 111 = .ok (.istore 6, 2) := by decide +kernel
theorem dX7_way_113 : decode cX7_way 113 = .ok (.iconst 0, 1) := by decide +kernel
theorem dX7_way_114 : decode cX7_way 114 = .ok (.istore 7, 2) := by decide +kernel
theorem dX7_way_116 : decode cX7_way 116 = .ok (.iload 7, 2) := by decide +kernel
theorem dX7_way_118 : decode cX7_way 118 = .ok (.iload 5, 2) := by decide +kernel
theorem dX7_way_120 : decode cX7_way 120 = .ok (.if_icmp .ge 119, 3) := by decide +kernel
theorem dX7_way_123 : decode cX7_way 123 = .ok (.iload 6, 2) := by decide +kernel
theorem dX7_way_125 : decode cX7_way 125 = .ok (.bipush (-4), 2) := by decide +kernel
theorem dX7_way_127 : decode cX7_way 127 = .ok (.if_icmp .ne 112, 3) := by decide +kernel
theorem dX7_way_130 : decode cX7_way 130 = .ok (.aload_n 0, 1) := by decide +kernel
theorem dX7_way_131 : decode cX7_way 131 = .ok (.getfield 107, 3) := by decide +kernel
theorem dX7_way_134 : decode cX7_way 134 = .ok (.iload 7, 2) := by decide +kernel
theorem dX7_way_136 : decode cX7_way 136 = .ok (.iaload, 1) := by decide +kernel
theorem dX7_way_137 : decode cX7_way 137 = .ok (.istore 8, 2) := by decide +kernel
theorem dX7_way_139 : decode cX7_way 139 = .ok (.aload_n 0, 1) := by decide +kernel
theorem dX7_way_140 : decode cX7_way 140 = .ok (.getfield 64, 3) := by decide +kernel
theorem dX7_way_143 : decode cX7_way 143 = .ok (.iload 8, 2) := by decide +kernel
theorem dX7_way_145 : decode cX7_way 145 = .ok (.iaload, 1) := by decide +kernel
theorem dX7_way_146 : decode cX7_way 146 = .ok (.iload_n 2, 1) := by decide +kernel
theorem dX7_way_147 : decode cX7_way 147 = .ok (.if_icmp .ne 7, 3) := by decide +kernel
theorem dX7_way_150 : decode cX7_way 150 = .ok (.iload 8, 2) := by decide +kernel
theorem dX7_way_152 : decode cX7_way 152 = .ok (.istore 6, 2) := by decide +kernel
theorem dX7_way_154 : decode cX7_way 154 = .ok (.iconst 1, 1) := by decide +kernel
theorem dX7_way_155 : decode cX7_way 155 = .ok (.istore 9, 2) := by decide +kernel
theorem dX7_way_157 : decode cX7_way 157 = .ok (.iload 9, 2) := by decide +kernel
theorem dX7_way_159 : decode cX7_way 159 = .ok (.iconst 5, 1) := by decide +kernel
theorem dX7_way_160 : decode cX7_way 160 = .ok (.if_icmp .gt 73, 3) := by decide +kernel
theorem dX7_way_163 : decode cX7_way 163 = .ok (.iload 6, 2) := by decide +kernel
theorem dX7_way_165 : decode cX7_way 165 = .ok (.bipush (-4), 2) := by decide +kernel
theorem dX7_way_167 : decode cX7_way 167 = .ok (.if_icmp .ne 66, 3) := by decide +kernel
theorem dX7_way_170 : decode cX7_way 170 = .ok (.aload_n 0, 1) := by decide +kernel
theorem dX7_way_171 : decode cX7_way 171 = .ok (.iload 8, 2) := by decide +kernel
theorem dX7_way_173 : decode cX7_way 173 = .ok (.iload 9, 2) := by decide +kernel
theorem dX7_way_175 : decode cX7_way 175 = .ok (.invokevirtual 294, 3) := by decide +kernel
theorem dX7_way_178 : decode cX7_way 178 = .ok (.istore 10, 2) := by decide +kernel
theorem dX7_way_180 : decode cX7_way 180 = .ok (.iload 10, 2) := by decide +kernel
theorem dX7_way_182 : decode cX7_way 182 = .ok (.ifCond .lt 45, 3) := by decide +kernel
theorem dX7_way_185 : decode cX7_way 185 = .ok (.aload_n 0, 1) := by decide +kernel
theorem dX7_way_186 : decode cX7_way 186 = .ok (.getfield 113, 3) := by decide +kernel
theorem dX7_way_189 : decode cX7_way 189 = .ok (.iload 10, 2) := by decide +kernel
theorem dX7_way_191 : decode cX7_way 191 = .ok (.iaload, 1) := by decide +kernel
theorem dX7_way_192 : decode cX7_way 192 = .ok (.bipush (-4), 2) := by decide +kernel
theorem dX7_way_194 : decode cX7_way 194 = .ok (.if_icmp .ne 33, 3) := by decide +kernel
theorem dX7_way_197 : decode cX7_way 197 = .ok (.aload_n 0, 1) := by decide +kernel
theorem dX7_way_198 : decode cX7_way 198 = .ok (.getfield 113, 3) := by decide +kernel
theorem dX7_way_201 : decode cX7_way 201 = .ok (.iload 10, 2) := by decide +kernel
theorem dX7_way_203 : decode cX7_way 203 = .ok (.iload 9, 2) := by decide +kernel
theorem dX7_way_205 : decode cX7_way 205 = .ok (.iastore, 1) := by decide +kernel
theorem dX7_way_206 : decode cX7_way 206 = .ok (.aload_n 0, 1) := by decide +kernel
theorem dX7_way_207 : decode cX7_way 207 = .ok (.getfield 110, 3) := by decide +kernel
theorem dX7_way_210 : decode cX7_way 210 = .ok (.iload 10, 2) := by decide +kernel
theorem dX7_way_212 : decode cX7_way 212 = .ok (.iload 8, 2) := by decide +kernel
theorem dX7_way_214 : decode cX7_way 214 = .ok (.iastore, 1) := by decide +kernel
theorem dX7_way_215 : decode cX7_way 215 = .ok (.aload_n 0, 1) := by decide +kernel
theorem dX7_way_216 : decode cX7_way 216 = .ok (.getfield 107, 3) := by decide +kernel
theorem dX7_way_219 : decode cX7_way 219 = .ok (.iload 5, 2) := by decide +kernel
theorem dX7_way_221 : decode cX7_way 221 = .ok (.iload 10, 2) := by decide +kernel
theorem dX7_way_223 : decode cX7_way 223 = .ok (.iastore, 1) := by decide +kernel
theorem dX7_way_224 : decode cX7_way 224 = .ok (.iinc 5 1, 3) := by decide +kernel
theorem dX7_way_227 : decode cX7_way 227 = .ok (.iinc 9 1, 3) := by decide +kernel
theorem dX7_way_230 : decode cX7_way 230 = .ok (.goto (-73), 3) := by decide +kernel
theorem dX7_way_233 : decode cX7_way 233 = .ok (.iinc 7 1, 3) := by decide +kernel
theorem dX7_way_236 : decode cX7_way 236 = .ok (.goto (-120), 3) := by decide +kernel
theorem dX7_way_239 : decode cX7_way 239 = .ok (.iload 6, 2) := by decide +kernel
theorem dX7_way_241 : decode cX7_way 241 = .ok (.bipush (-4), 2) := by decide +kernel
theorem dX7_way_243 : decode cX7_way 243 = .ok (.if_icmp .ne 6, 3) := by decide +kernel
theorem dX7_way_246 : decode cX7_way 246 = .ok (.bipush (-4), 2) := by decide +kernel
theorem dX7_way_248 : decode cX7_way 248 = .ok (.ireturn, 1) := by decide +kernel
theorem dX7_way_249 : decode cX7_way 249 = .ok (.iconst 0, 1) := by decide +kernel
theorem dX7_way_250 : decode cX7_way 250 = .ok (.istore 7, 2) := by decide +kernel
theorem dX7_way_252 : decode cX7_way 252 = .ok (.iload 6, 2) := by decide +kernel
theorem dX7_way_254 : decode cX7_way 254 = .ok (.istore 8, 2) := by decide +kernel
theorem dX7_way_256 : decode cX7_way 256 = .ok (.aload_n 0, 1) := by decide +kernel
theorem dX7_way_257 : decode cX7_way 257 = .ok (.getfield 113, 3) := by decide +kernel
theorem dX7_way_260 : decode cX7_way 260 = .ok (.iload 8, 2) := by decide +kernel
theorem dX7_way_262 : decode cX7_way 262 = .ok (.iaload, 1) := by decide +kernel
theorem dX7_way_263 : decode cX7_way 263 = .ok (.ifCond .le 18, 3) := by decide +kernel
theorem dX7_way_266 : decode cX7_way 266 = .ok (.iinc 7 1, 3) := by decide +kernel
theorem dX7_way_269 : decode cX7_way 269 = .ok (.aload_n 0, 1) := by decide +kernel
theorem dX7_way_270 : decode cX7_way 270 = .ok (.getfield 110, 3) := by decide +kernel
theorem dX7_way_273 : decode cX7_way 273 = .ok (.iload 8, 2) := by decide +kernel
theorem dX7_way_275 : decode cX7_way 275 = .ok (.iaload, 1) := by decide +kernel
theorem dX7_way_276 : decode cX7_way 276 = .ok (.istore 8, 2) := by decide +kernel
theorem dX7_way_278 : decode cX7_way 278 = .ok (.goto (-22), 3) := by decide +kernel
theorem dX7_way_281 : decode cX7_way 281 = .ok (.iload_n 3, 1) := by decide +kernel
theorem dX7_way_282 : decode cX7_way 282 = .ok (.ifCond .ge 6, 3) := by decide +kernel
theorem dX7_way_285 : decode cX7_way 285 = .ok (.iload 7, 2) := by decide +kernel
theorem dX7_way_287 : decode cX7_way 287 = .ok (.ireturn, 1) := by decide +kernel
theorem dX7_way_288 : decode cX7_way 288 = .ok (.iload_n 3, 1) := by decide +kernel
theorem dX7_way_289 : decode cX7_way 289 = .ok (.iload 7, 2) := by decide +kernel
theorem dX7_way_291 : decode cX7_way 291 = .ok (.if_icmp .lt 6, 3) := by decide +kernel
theorem dX7_way_294 : decode cX7_way 294 = .ok (.bipush (-4), 2) := by decide +kernel
theorem dX7_way_296 : decode cX7_way 296 = .ok (.ireturn, 1) := by decide +kernel
theorem dX7_way_297 : decode cX7_way 297 = .ok (.iload 7, 2) := by decide +kernel
theorem dX7_way_299 : decode cX7_way 299 = .ok (.iconst 1, 1) := by decide +kernel
theorem dX7_way_300 : decode cX7_way 300 = .ok (.isub, 1) := by decide +kernel
theorem dX7_way_301 : decode cX7_way 301 = .ok (.istore 8, 2) := by decide +kernel
theorem dX7_way_303 : decode cX7_way 303 = .ok (.iload 8, 2) := by decide +kernel
theorem dX7_way_305 : decode cX7_way 305 = .ok (.iload_n 3, 1) := by decide +kernel
theorem dX7_way_306 : decode cX7_way 306 = .ok (.if_icmp .le 18, 3) := by decide +kernel
theorem dX7_way_309 : decode cX7_way 309 = .ok (.aload_n 0, 1) := by decide +kernel
theorem dX7_way_310 : decode cX7_way 310 = .ok (.getfield 110, 3) := by decide +kernel
theorem dX7_way_313 : decode cX7_way 313 = .ok (.iload 6, 2) := by decide +kernel
theorem dX7_way_315 : decode cX7_way 315 = .ok (.iaload, 1) := by decide +kernel
theorem dX7_way_316 : decode cX7_way 316 = .ok (.istore 6, 2) := by decide +kernel
theorem dX7_way_318 : decode cX7_way 318 = .ok (.iinc 8 (-1), 3) := by decide +kernel
theorem dX7_way_321 : decode cX7_way 321 = .ok (.goto (-18), 3) := by decide +kernel
theorem dX7_way_324 : decode cX7_way 324 = .ok (.aload_n 0, 1) := by decide +kernel
theorem dX7_way_325 : decode cX7_way 325 = .ok (.getfield 113, 3) := by decide +kernel
theorem dX7_way_328 : decode cX7_way 328 = .ok (.iload 6, 2) := by decide +kernel
theorem dX7_way_330 : decode cX7_way 330 = .ok (.iaload, 1) := by decide +kernel
theorem dX7_way_331 : decode cX7_way 331 = .ok (.ireturn, 1) := by decide +kernel
theorem dX7_told_0 : decode cX7_told 0 = .ok (.iload_n 1, 1) := by decide +kernel
theorem dX7_told_1 : decode cX7_told 1 = .ok (.i2l, 1) := by decide +kernel
theorem dX7_told_2 : decode cX7_told 2 = .ok (.lconst 0, 1) := by decide +kernel
theorem dX7_told_3 : decode cX7_told 3 = .ok (.ldc2_w 292, 3) := by decide +kernel
theorem dX7_told_6 : decode cX7_told 6 = .ok (.invokestatic 118, 3) := by decide +kernel
theorem dX7_told_9 : decode cX7_told 9 = .ok (.ifCond .eq 41, 3) := by decide +kernel
theorem dX7_told_12 : decode cX7_told 12 = .ok (.iload_n 2, 1) := by decide +kernel
theorem dX7_told_13 : decode cX7_told 13 = .ok (.i2l, 1) := by decide +kernel
theorem dX7_told_14 : decode cX7_told 14 = .ok (.lconst 0, 1) := by decide +kernel
theorem dX7_told_15 : decode cX7_told 15 = .ok (.ldc2_w 297, 3) := by decide +kernel
theorem dX7_told_18 : decode cX7_told 18 = .ok (.invokestatic 118, 3) := by decide +kernel
theorem dX7_told_21 : decode cX7_told 21 = .ok (.ifCond .eq 29, 3) := by decide +kernel
theorem dX7_told_24 : decode cX7_told 24 = .ok (.lload_n 3, 1) := by decide +kernel
theorem dX7_told_25 : decode cX7_told 25 = .ok (.lconst 0, 1) := by decide +kernel
theorem dX7_told_26 : decode cX7_told 26 = .ok (.lconst 1, 1) := by decide +kernel
theorem dX7_told_27 : decode cX7_told 27 = .ok (.iconst 4, 1) := by decide +kernel
theorem dX7_told_28 : decode cX7_told 28 = .ok (.iload_n 2, 1) := by decide +kernel
theorem dX7_told_29 : decode cX7_told 29 = .ok (.imul, 1) := by decide +kernel
theorem dX7_told_30 : decode cX7_told 30 = .ok (.lshl, 1) := by decide +kernel
theorem dX7_told_31 : decode cX7_told 31 = .ok (.lconst 1, 1) := by decide +kernel
theorem dX7_told_32 : decode cX7_told 32 = .ok (.lsub, 1) := by decide +kernel
theorem dX7_told_33 : decode cX7_told 33 = .ok (.invokestatic 118, 3) := by decide +kernel
theorem dX7_told_36 : decode cX7_told 36 = .ok (.ifCond .eq 14, 3) := by decide +kernel
theorem dX7_told_39 : decode cX7_told 39 = .ok (.iload 5, 2) := by decide +kernel
theorem dX7_told_41 : decode cX7_told 41 = .ok (.i2l, 1) := by decide +kernel
theorem dX7_told_42 : decode cX7_told 42 = .ok (.lconst 0, 1) := by decide +kernel
theorem dX7_told_43 : decode cX7_told 43 = .ok (.lconst 1, 1) := by decide +kernel
theorem dX7_told_44 : decode cX7_told 44 = .ok (.invokestatic 118, 3) := by decide +kernel
theorem dX7_told_47 : decode cX7_told 47 = .ok (.ifCond .ne 5, 3) := by decide +kernel
theorem dX7_told_50 : decode cX7_told 50 = .ok (.iconst (-1), 1) := by decide +kernel
theorem dX7_told_51 : decode cX7_told 51 = .ok (.ireturn, 1) := by decide +kernel
theorem dX7_told_52 : decode cX7_told 52 = .ok (.iconst 0, 1) := by decide +kernel
theorem dX7_told_53 : decode cX7_told 53 = .ok (.istore 6, 2) := by decide +kernel
theorem dX7_told_55 : decode cX7_told 55 = .ok (.iload 6, 2) := by decide +kernel
theorem dX7_told_57 : decode cX7_told 57 = .ok (.iload_n 2, 1) := by decide +kernel
theorem dX7_told_58 : decode cX7_told 58 = .ok (.if_icmp .ge 28, 3) := by decide +kernel
theorem dX7_told_61 : decode cX7_told 61 = .ok (.lload_n 3, 1) := by decide +kernel
theorem dX7_told_62 : decode cX7_told 62 = .ok (.iconst 4, 1) := by decide +kernel
theorem dX7_told_63 : decode cX7_told 63 = .ok (.iload 6, 2) := by decide +kernel
theorem dX7_told_65 : decode cX7_told 65 = .ok (.imul, 1) := by decide +kernel
theorem dX7_told_66 : decode cX7_told 66 = .ok (.lshr, 1) := by decide +kernel
theorem dX7_told_67 : decode cX7_told 67 = .ok (.ldc2_w 299, 3) := by decide +kernel
theorem dX7_told_70 : decode cX7_told 70 = .ok (.land, 1) := by decide +kernel
theorem dX7_told_71 : decode cX7_told 71 = .ok (.ldc2_w 140, 3) := by decide +kernel
theorem dX7_told_74 : decode cX7_told 74 = .ok (.lcmp, 1) := by decide +kernel
theorem dX7_told_75 : decode cX7_told 75 = .ok (.ifCond .le 5, 3) := by decide +kernel
theorem dX7_told_78 : decode cX7_told 78 = .ok (.iconst (-1), 1) := by decide +kernel
theorem dX7_told_79 : decode cX7_told 79 = .ok (.ireturn, 1) := by decide +kernel
theorem dX7_told_80 : decode cX7_told 80 = .ok (.iinc 6 1, 3) := by decide +kernel
theorem dX7_told_83 : decode cX7_told 83 = .ok (.goto (-28), 3) := by decide +kernel
theorem dX7_told_86 : decode cX7_told 86 = .ok (.aload_n 0, 1) := by decide +kernel
theorem dX7_told_87 : decode cX7_told 87 = .ok (.invokevirtual 257, 3) := by decide +kernel
theorem dX7_told_90 : decode cX7_told 90 = .ok (.istore 6, 2) := by decide +kernel
theorem dX7_told_92 : decode cX7_told 92 = .ok (.iload 6, 2) := by decide +kernel
theorem dX7_told_94 : decode cX7_told 94 = .ok (.ifCond .ge 6, 3) := by decide +kernel
theorem dX7_told_97 : decode cX7_told 97 = .ok (.iload 6, 2) := by decide +kernel
theorem dX7_told_99 : decode cX7_told 99 = .ok (.ireturn, 1) := by decide +kernel
theorem dX7_told_100 : decode cX7_told 100 = .ok (.aload_n 0, 1) := by decide +kernel
theorem dX7_told_101 : decode cX7_told 101 = .ok (.getfield 67, 3) := by decide +kernel
theorem dX7_told_104 : decode cX7_told 104 = .ok (.iload_n 1, 1) := by decide +kernel
theorem dX7_told_105 : decode cX7_told 105 = .ok (.iaload, 1) := by decide +kernel
theorem dX7_told_106 : decode cX7_told 106 = .ok (.ifCond .ge 6, 3) := by decide +kernel
theorem dX7_told_109 : decode cX7_told 109 = .ok (.bipush (-4), 2) := by decide +kernel
theorem dX7_told_111 : decode cX7_told 111 = .ok (.ireturn, 1) := by decide +kernel
theorem dX7_told_112 : decode cX7_told 112 = .ok (.aload_n 0, 1) := by decide +kernel
theorem dX7_told_113 : decode cX7_told 113 = .ok (.getfield 67, 3) := by decide +kernel
theorem dX7_told_116 : decode cX7_told 116 = .ok (.iload_n 1, 1) := by decide +kernel
theorem dX7_told_117 : decode cX7_told 117 = .ok (.iaload, 1) := by decide +kernel
theorem dX7_told_118 : decode cX7_told 118 = .ok (.istore 7, 2) := by decide +kernel
theorem dX7_told_120 : decode cX7_told 120 = .ok (.iconst 0, 1) := by decide +kernel
theorem dX7_told_121 : decode cX7_told 121 = .ok (.istore 8, 2) := by decide +kernel
theorem dX7_told_123 : decode cX7_told 123 = .ok (.iconst 1, 1) := by decide +kernel
theorem dX7_told_124 : decode cX7_told 124 = .ok (.istore 9, 2) := by decide +kernel
theorem dX7_told_126 : decode cX7_told 126 = .ok (.iload_n 2, 1) := by decide +kernel
theorem dX7_told_127 : decode cX7_told 127 = .ok (.iconst 1, 1) := by decide +kernel
theorem dX7_told_128 : decode cX7_told 128 = .ok (.isub, 1) := by decide +kernel
theorem dX7_told_129 : decode cX7_told 129 = .ok (.istore 10, 2) := by decide +kernel
theorem dX7_told_131 : decode cX7_told 131 = .ok (.iload 10, 2) := by decide +kernel
theorem dX7_told_133 : decode cX7_told 133 = .ok (.ifCond .lt 74, 3) := by decide +kernel
theorem dX7_told_136 : decode cX7_told 136 = .ok (.iload 9, 2) := by decide +kernel
theorem dX7_told_138 : decode cX7_told 138 = .ok (.ifCond .eq 69, 3) := by decide +kernel
theorem dX7_told_141 : decode cX7_told 141 = .ok (.aload_n 0, 1) := by decide +kernel
theorem dX7_told_142 : decode cX7_told 142 = .ok (.iload 7, 2) := by decide +kernel
theorem dX7_told_144 : decode cX7_told 144 = .ok (.lload_n 3, 1) := by decide +kernel
theorem dX7_told_145 : decode cX7_told 145 = .ok (.iconst 4, 1) := by decide +kernel
theorem dX7_told_146 : decode cX7_told 146 = .ok (.iload 10, 2) := by decide +kernel
theorem dX7_told_148 : decode cX7_told 148 = .ok (.imul, 1) := by decide +kernel
theorem dX7_told_149 : decode cX7_told 149 = .ok (.lshr, 1) := by decide +kernel
theorem dX7_told_150 : decode cX7_told 150 = .ok (.ldc2_w 299, 3) := by decide +kernel
theorem dX7_told_153 : decode cX7_told 153 = .ok (.land, 1) := by decide +kernel
theorem dX7_told_154 : decode cX7_told 154 = .ok (.l2i, 1) := by decide +kernel
theorem dX7_told_155 : decode cX7_told 155 = .ok (.invokevirtual 294, 3) := by decide +kernel
theorem dX7_told_158 : decode cX7_told 158 = .ok (.istore 11, 2) := by decide +kernel
theorem dX7_told_160 : decode cX7_told 160 = .ok (.iload 11, 2) := by decide +kernel
theorem dX7_told_162 : decode cX7_told 162 = .ok (.ifCond .lt 7, 3) := by decide +kernel
theorem dX7_told_165 : decode cX7_told 165 = .ok (.iconst 1, 1) := by decide +kernel
theorem dX7_told_166 : decode cX7_told 166 = .ok (.goto 4, 3) := by decide +kernel
theorem dX7_told_169 : decode cX7_told 169 = .ok (.iconst 0, 1) := by decide +kernel
theorem dX7_told_170 : decode cX7_told 170 = .ok (.istore 9, 2) := by decide +kernel
theorem dX7_told_172 : decode cX7_told 172 = .ok (.iload 9, 2) := by decide +kernel
theorem dX7_told_174 : decode cX7_told 174 = .ok (.ifCond .eq 8, 3) := by decide +kernel
theorem dX7_told_177 : decode cX7_told 177 = .ok (.iload 11, 2) := by decide +kernel
theorem dX7_told_179 : decode cX7_told 179 = .ok (.goto 5, 3) := by decide +kernel
theorem dX7_told_182 : decode cX7_told 182 = .ok (.iload 7, 2) := by decide +kernel
theorem dX7_told_184 : decode cX7_told 184 = .ok (.istore 7, 2) := by decide +kernel
theorem dX7_told_186 : decode cX7_told 186 = .ok (.iload 8, 2) := by decide +kernel
theorem dX7_told_188 : decode cX7_told 188 = .ok (.iload 9, 2) := by decide +kernel
theorem dX7_told_190 : decode cX7_told 190 = .ok (.ifCond .eq 7, 3) := by decide +kernel
theorem dX7_told_193 : decode cX7_told 193 = .ok (.iconst 1, 1) := by decide +kernel
theorem dX7_told_194 : decode cX7_told 194 = .ok (.goto 4, 3) := by decide +kernel
theorem dX7_told_197 : decode cX7_told 197 = .ok (.iconst 0, 1) := by decide +kernel
theorem dX7_told_198 : decode cX7_told 198 = .ok (.iadd, 1) := by decide +kernel
theorem dX7_told_199 : decode cX7_told 199 = .ok (.istore 8, 2) := by decide +kernel
theorem dX7_told_201 : decode cX7_told 201 = .ok (.iinc 10 (-1), 3) := by decide +kernel
theorem dX7_told_204 : decode cX7_told 204 = .ok (.goto (-73), 3) := by decide +kernel
theorem dX7_told_207 : decode cX7_told 207 = .ok (.iload 5, 2) := by decide +kernel
theorem dX7_told_209 : decode cX7_told 209 = .ok (.ifCond .ne 8, 3) := by decide +kernel
theorem dX7_told_212 : decode cX7_told 212 = .ok (.iload 8, 2) := by decide +kernel
theorem dX7_told_214 : decode cX7_told 214 = .ok (.goto 10, 3) := by decide +kernel
theorem dX7_told_217 : decode cX7_told 217 = .ok (.aload_n 0, 1) := by decide +kernel
theorem dX7_told_218 : decode cX7_told 218 = .ok (.getfield 64, 3) := by decide +kernel
theorem dX7_told_221 : decode cX7_told 221 = .ok (.iload 7, 2) := by decide +kernel
theorem dX7_told_223 : decode cX7_told 223 = .ok (.iaload, 1) := by decide +kernel
theorem dX7_told_224 : decode cX7_told 224 = .ok (.ireturn, 1) := by decide +kernel
theorem dX7_copy_0 : decode cX7_copy 0 = .ok (.aload_n 0, 1) := by decide +kernel
theorem dX7_copy_1 : decode cX7_copy 1 = .ok (.getfield 13, 3) := by decide +kernel
theorem dX7_copy_4 : decode cX7_copy 4 = .ok (.iload_n 2, 1) := by decide +kernel
theorem dX7_copy_5 : decode cX7_copy 5 = .ok (.aload_n 0, 1) := by decide +kernel
theorem dX7_copy_6 : decode cX7_copy 6 = .ok (.getfield 13, 3) := by decide +kernel
theorem dX7_copy_9 : decode cX7_copy 9 = .ok (.iload_n 1, 1) := by decide +kernel
theorem dX7_copy_10 : decode cX7_copy 10 = .ok (.iaload, 1) := by decide +kernel
theorem dX7_copy_11 : decode cX7_copy 11 = .ok (.iastore, 1) := by decide +kernel
theorem dX7_copy_12 : decode cX7_copy 12 = .ok (.aload_n 0, 1) := by decide +kernel
theorem dX7_copy_13 : decode cX7_copy 13 = .ok (.getfield 19, 3) := by decide +kernel
theorem dX7_copy_16 : decode cX7_copy 16 = .ok (.iload_n 2, 1) := by decide +kernel
theorem dX7_copy_17 : decode cX7_copy 17 = .ok (.aload_n 0, 1) := by decide +kernel
theorem dX7_copy_18 : decode cX7_copy 18 = .ok (.getfield 19, 3) := by decide +kernel
theorem dX7_copy_21 : decode cX7_copy 21 = .ok (.iload_n 1, 1) := by decide +kernel
theorem dX7_copy_22 : decode cX7_copy 22 = .ok (.iaload, 1) := by decide +kernel
theorem dX7_copy_23 : decode cX7_copy 23 = .ok (.iastore, 1) := by decide +kernel
theorem dX7_copy_24 : decode cX7_copy 24 = .ok (.iconst 0, 1) := by decide +kernel
theorem dX7_copy_25 : decode cX7_copy 25 = .ok (.istore_n 3, 1) := by decide +kernel
theorem dX7_copy_26 : decode cX7_copy 26 = .ok (.iload_n 3, 1) := by decide +kernel
theorem dX7_copy_27 : decode cX7_copy 27 = .ok (.sipush 300, 3) := by decide +kernel
theorem dX7_copy_30 : decode cX7_copy 30 = .ok (.if_icmp .ge 33, 3) := by decide +kernel
theorem dX7_copy_33 : decode cX7_copy 33 = .ok (.aload_n 0, 1) := by decide +kernel
theorem dX7_copy_34 : decode cX7_copy 34 = .ok (.getfield 16, 3) := by decide +kernel
theorem dX7_copy_37 : decode cX7_copy 37 = .ok (.sipush 300, 3) := by decide +kernel
theorem dX7_copy_40 : decode cX7_copy 40 = .ok (.iload_n 2, 1) := by decide +kernel
theorem dX7_copy_41 : decode cX7_copy 41 = .ok (.imul, 1) := by decide +kernel
theorem dX7_copy_42 : decode cX7_copy 42 = .ok (.iload_n 3, 1) := by decide +kernel
theorem dX7_copy_43 : decode cX7_copy 43 = .ok (.iadd, 1) := by decide +kernel
theorem dX7_copy_44 : decode cX7_copy 44 = .ok (.aload_n 0, 1) := by decide +kernel
theorem dX7_copy_45 : decode cX7_copy 45 = .ok (.getfield 16, 3) := by decide +kernel
theorem dX7_copy_48 : decode cX7_copy 48 = .ok (.sipush 300, 3) := by decide +kernel
theorem dX7_copy_51 : decode cX7_copy 51 = .ok (.iload_n 1, 1) := by decide +kernel
theorem dX7_copy_52 : decode cX7_copy 52 = .ok (.imul, 1) := by decide +kernel
theorem dX7_copy_53 : decode cX7_copy 53 = .ok (.iload_n 3, 1) := by decide +kernel
theorem dX7_copy_54 : decode cX7_copy 54 = .ok (.iadd, 1) := by decide +kernel
theorem dX7_copy_55 : decode cX7_copy 55 = .ok (.iaload, 1) := by decide +kernel
theorem dX7_copy_56 : decode cX7_copy 56 = .ok (.iastore, 1) := by decide +kernel
theorem dX7_copy_57 : decode cX7_copy 57 = .ok (.iinc 3 1, 3) := by decide +kernel
theorem dX7_copy_60 : decode cX7_copy 60 = .ok (.goto (-34), 3) := by decide +kernel
theorem dX7_copy_63 : decode cX7_copy 63 = .ok (.return_, 1) := by decide +kernel
theorem dX7_keep_0 : decode cX7_keep 0 = .ok (.aload_n 0, 1) := by decide +kernel
theorem dX7_keep_1 : decode cX7_keep 1 = .ok (.getfield 301, 3) := by decide +kernel
theorem dX7_keep_4 : decode cX7_keep 4 = .ok (.iconst 2, 1) := by decide +kernel
theorem dX7_keep_5 : decode cX7_keep 5 = .ok (.if_icmp .ne 6, 3) := by decide +kernel
theorem dX7_keep_8 : decode cX7_keep 8 = .ok (.bipush (-3), 2) := by decide +kernel
theorem dX7_keep_10 : decode cX7_keep 10 = .ok (.ireturn, 1) := by decide +kernel
theorem dX7_keep_11 : decode cX7_keep 11 = .ok (.aload_n 0, 1) := by decide +kernel
theorem dX7_keep_12 : decode cX7_keep 12 = .ok (.iconst 0, 1) := by decide +kernel
theorem dX7_keep_13 : decode cX7_keep 13 = .ok (.iconst 1, 1) := by decide +kernel
theorem dX7_keep_14 : decode cX7_keep 14 = .ok (.aload_n 0, 1) := by decide +kernel
theorem dX7_keep_15 : decode cX7_keep 15 = .ok (.getfield 301, 3) := by decide +kernel
theorem dX7_keep_18 : decode cX7_keep 18 = .ok (.iadd, 1) := by decide +kernel
theorem dX7_keep_19 : decode cX7_keep 19 = .ok (.invokevirtual 304, 3) := by decide +kernel
theorem dX7_keep_22 : decode cX7_keep 22 = .ok (.aload_n 0, 1) := by decide +kernel
theorem dX7_keep_23 : decode cX7_keep 23 = .ok (.dup, 1) := by decide +kernel
theorem dX7_keep_24 : decode cX7_keep 24 = .ok (.getfield 301, 3) := by decide +kernel
theorem dX7_keep_27 : decode cX7_keep 27 = .ok (.iconst 1, 1) := by decide +kernel
theorem dX7_keep_28 : decode cX7_keep 28 = .ok (.iadd, 1) := by decide +kernel
theorem dX7_keep_29 : decode cX7_keep 29 = .ok (.putfield 301, 3) := by decide +kernel
theorem dX7_keep_32 : decode cX7_keep 32 = .ok (.aload_n 0, 1) := by decide +kernel
theorem dX7_keep_33 : decode cX7_keep 33 = .ok (.getfield 301, 3) := by decide +kernel
theorem dX7_keep_36 : decode cX7_keep 36 = .ok (.ireturn, 1) := by decide +kernel
theorem dX7_back_0 : decode cX7_back 0 = .ok (.aload_n 0, 1) := by decide +kernel
theorem dX7_back_1 : decode cX7_back 1 = .ok (.getfield 301, 3) := by decide +kernel
theorem dX7_back_4 : decode cX7_back 4 = .ok (.ifCond .ne 6, 3) := by decide +kernel
theorem dX7_back_7 : decode cX7_back 7 = .ok (.bipush (-2), 2) := by decide +kernel
theorem dX7_back_9 : decode cX7_back 9 = .ok (.ireturn, 1) := by decide +kernel
theorem dX7_back_10 : decode cX7_back 10 = .ok (.aload_n 0, 1) := by decide +kernel
theorem dX7_back_11 : decode cX7_back 11 = .ok (.dup, 1) := by decide +kernel
theorem dX7_back_12 : decode cX7_back 12 = .ok (.getfield 301, 3) := by decide +kernel
theorem dX7_back_15 : decode cX7_back 15 = .ok (.iconst 1, 1) := by decide +kernel
theorem dX7_back_16 : decode cX7_back 16 = .ok (.isub, 1) := by decide +kernel
theorem dX7_back_17 : decode cX7_back 17 = .ok (.putfield 301, 3) := by decide +kernel
theorem dX7_back_20 : decode cX7_back 20 = .ok (.aload_n 0, 1) := by decide +kernel
theorem dX7_back_21 : decode cX7_back 21 = .ok (.iconst 1, 1) := by decide +kernel
theorem dX7_back_22 : decode cX7_back 22 = .ok (.aload_n 0, 1) := by decide +kernel
theorem dX7_back_23 : decode cX7_back 23 = .ok (.getfield 301, 3) := by decide +kernel
theorem dX7_back_26 : decode cX7_back 26 = .ok (.iadd, 1) := by decide +kernel
theorem dX7_back_27 : decode cX7_back 27 = .ok (.iconst 0, 1) := by decide +kernel
theorem dX7_back_28 : decode cX7_back 28 = .ok (.invokevirtual 304, 3) := by decide +kernel
theorem dX7_back_31 : decode cX7_back 31 = .ok (.aload_n 0, 1) := by decide +kernel
theorem dX7_back_32 : decode cX7_back 32 = .ok (.getfield 301, 3) := by decide +kernel
theorem dX7_back_35 : decode cX7_back 35 = .ok (.ireturn, 1) := by decide +kernel
theorem dX7_count_0 : decode cX7_count 0 = .ok (.iconst 0, 1) := by decide +kernel
theorem dX7_count_1 : decode cX7_count 1 = .ok (.istore_n 2, 1) := by decide +kernel
theorem dX7_count_2 : decode cX7_count 2 = .ok (.iload_n 1, 1) := by decide +kernel
theorem dX7_count_3 : decode cX7_count 3 = .ok (.tableswitch 84 0 4 #[33, 38, 43, 69, 79], 33) := by decide +kernel
theorem dX7_count_36 : decode cX7_count 36 = .ok (.aload_n 0, 1) := by decide +kernel
theorem dX7_count_37 : decode cX7_count 37 = .ok (.getfield 122, 3) := by decide +kernel
theorem dX7_count_40 : decode cX7_count 40 = .ok (.ireturn, 1) := by decide +kernel
theorem dX7_count_41 : decode cX7_count 41 = .ok (.aload_n 0, 1) := by decide +kernel
theorem dX7_count_42 : decode cX7_count 42 = .ok (.invokevirtual 150, 3) := by decide +kernel
theorem dX7_count_45 : decode cX7_count 45 = .ok (.ireturn, 1) := by decide +kernel
theorem dX7_count_46 : decode cX7_count 46 = .ok (.iconst 0, 1) := by decide +kernel
theorem dX7_count_47 : decode cX7_count 47 = .ok (.istore_n 3, 1) := by decide +kernel
theorem dX7_count_48 : decode cX7_count 48 = .ok (.iload_n 3, 1) := by decide +kernel
theorem dX7_count_49 : decode cX7_count 49 = .ok (.aload_n 0, 1) := by decide +kernel
theorem dX7_count_50 : decode cX7_count 50 = .ok (.invokevirtual 150, 3) := by decide +kernel
theorem dX7_count_53 : decode cX7_count 53 = .ok (.if_icmp .ge 17, 3) := by decide +kernel
theorem dX7_count_56 : decode cX7_count 56 = .ok (.iload_n 2, 1) := by decide +kernel
theorem dX7_count_57 : decode cX7_count 57 = .ok (.aload_n 0, 1) := by decide +kernel
theorem dX7_count_58 : decode cX7_count 58 = .ok (.iload_n 3, 1) := by decide +kernel
theorem dX7_count_59 : decode cX7_count 59 = .ok (.invokevirtual 260, 3) := by decide +kernel
theorem dX7_count_62 : decode cX7_count 62 = .ok (.iadd, 1) := by decide +kernel
theorem dX7_count_63 : decode cX7_count 63 = .ok (.istore_n 2, 1) := by decide +kernel
theorem dX7_count_64 : decode cX7_count 64 = .ok (.iinc 3 1, 3) := by decide +kernel
theorem dX7_count_67 : decode cX7_count 67 = .ok (.goto (-19), 3) := by decide +kernel
theorem dX7_count_70 : decode cX7_count 70 = .ok (.iload_n 2, 1) := by decide +kernel
theorem dX7_count_71 : decode cX7_count 71 = .ok (.ireturn, 1) := by decide +kernel
theorem dX7_count_72 : decode cX7_count 72 = .ok (.aload_n 0, 1) := by decide +kernel
theorem dX7_count_73 : decode cX7_count 73 = .ok (.getfield 19, 3) := by decide +kernel
theorem dX7_count_76 : decode cX7_count 76 = .ok (.iconst 0, 1) := by decide +kernel
theorem dX7_count_77 : decode cX7_count 77 = .ok (.iaload, 1) := by decide +kernel
theorem dX7_count_78 : decode cX7_count 78 = .ok (.invokestatic 233, 3) := by decide +kernel
theorem dX7_count_81 : decode cX7_count 81 = .ok (.ireturn, 1) := by decide +kernel
theorem dX7_count_82 : decode cX7_count 82 = .ok (.aload_n 0, 1) := by decide +kernel
theorem dX7_count_83 : decode cX7_count 83 = .ok (.getfield 301, 3) := by decide +kernel
theorem dX7_count_86 : decode cX7_count 86 = .ok (.ireturn, 1) := by decide +kernel
theorem dX7_count_87 : decode cX7_count 87 = .ok (.iconst (-1), 1) := by decide +kernel
theorem dX7_count_88 : decode cX7_count 88 = .ok (.ireturn, 1) := by decide +kernel
theorem dJ6_bitCount_0f7a4_0 : decode cJ6_bitCount_0f7a4 0 = .ok (.iload_n 0, 1) := by decide +kernel
theorem dJ6_bitCount_0f7a4_1 : decode cJ6_bitCount_0f7a4 1 = .ok (.iload_n 0, 1) := by decide +kernel
theorem dJ6_bitCount_0f7a4_2 : decode cJ6_bitCount_0f7a4 2 = .ok (.iconst 1, 1) := by decide +kernel
theorem dJ6_bitCount_0f7a4_3 : decode cJ6_bitCount_0f7a4 3 = .ok (.iushr, 1) := by decide +kernel
theorem dJ6_bitCount_0f7a4_4 : decode cJ6_bitCount_0f7a4 4 = .ok (.ldc_w 265, 3) := by decide +kernel
theorem dJ6_bitCount_0f7a4_7 : decode cJ6_bitCount_0f7a4 7 = .ok (.iand, 1) := by decide +kernel
theorem dJ6_bitCount_0f7a4_8 : decode cJ6_bitCount_0f7a4 8 = .ok (.isub, 1) := by decide +kernel
theorem dJ6_bitCount_0f7a4_9 : decode cJ6_bitCount_0f7a4 9 = .ok (.istore_n 0, 1) := by decide +kernel
theorem dJ6_bitCount_0f7a4_10 : decode cJ6_bitCount_0f7a4 10 = .ok (.iload_n 0, 1) := by decide +kernel
theorem dJ6_bitCount_0f7a4_11 : decode cJ6_bitCount_0f7a4 11 = .ok (.ldc_w 266, 3) := by decide +kernel
theorem dJ6_bitCount_0f7a4_14 : decode cJ6_bitCount_0f7a4 14 = .ok (.iand, 1) := by decide +kernel
theorem dJ6_bitCount_0f7a4_15 : decode cJ6_bitCount_0f7a4 15 = .ok (.iload_n 0, 1) := by decide +kernel
theorem dJ6_bitCount_0f7a4_16 : decode cJ6_bitCount_0f7a4 16 = .ok (.iconst 2, 1) := by decide +kernel
theorem dJ6_bitCount_0f7a4_17 : decode cJ6_bitCount_0f7a4 17 = .ok (.iushr, 1) := by decide +kernel
theorem dJ6_bitCount_0f7a4_18 : decode cJ6_bitCount_0f7a4 18 = .ok (.ldc_w 266, 3) := by decide +kernel
theorem dJ6_bitCount_0f7a4_21 : decode cJ6_bitCount_0f7a4 21 = .ok (.iand, 1) := by decide +kernel
theorem dJ6_bitCount_0f7a4_22 : decode cJ6_bitCount_0f7a4 22 = .ok (.iadd, 1) := by decide +kernel
theorem dJ6_bitCount_0f7a4_23 : decode cJ6_bitCount_0f7a4 23 = .ok (.istore_n 0, 1) := by decide +kernel
theorem dJ6_bitCount_0f7a4_24 : decode cJ6_bitCount_0f7a4 24 = .ok (.iload_n 0, 1) := by decide +kernel
theorem dJ6_bitCount_0f7a4_25 : decode cJ6_bitCount_0f7a4 25 = .ok (.iload_n 0, 1) := by decide +kernel
theorem dJ6_bitCount_0f7a4_26 : decode cJ6_bitCount_0f7a4 26 = .ok (.iconst 4, 1) := by decide +kernel
theorem dJ6_bitCount_0f7a4_27 : decode cJ6_bitCount_0f7a4 27 = .ok (.iushr, 1) := by decide +kernel
theorem dJ6_bitCount_0f7a4_28 : decode cJ6_bitCount_0f7a4 28 = .ok (.iadd, 1) := by decide +kernel
theorem dJ6_bitCount_0f7a4_29 : decode cJ6_bitCount_0f7a4 29 = .ok (.ldc_w 267, 3) := by decide +kernel
theorem dJ6_bitCount_0f7a4_32 : decode cJ6_bitCount_0f7a4 32 = .ok (.iand, 1) := by decide +kernel
theorem dJ6_bitCount_0f7a4_33 : decode cJ6_bitCount_0f7a4 33 = .ok (.istore_n 0, 1) := by decide +kernel
theorem dJ6_bitCount_0f7a4_34 : decode cJ6_bitCount_0f7a4 34 = .ok (.iload_n 0, 1) := by decide +kernel
theorem dJ6_bitCount_0f7a4_35 : decode cJ6_bitCount_0f7a4 35 = .ok (.iload_n 0, 1) := by decide +kernel
theorem dJ6_bitCount_0f7a4_36 : decode cJ6_bitCount_0f7a4 36 = .ok (.bipush 8, 2) := by decide +kernel
theorem dJ6_bitCount_0f7a4_38 : decode cJ6_bitCount_0f7a4 38 = .ok (.iushr, 1) := by decide +kernel
theorem dJ6_bitCount_0f7a4_39 : decode cJ6_bitCount_0f7a4 39 = .ok (.iadd, 1) := by decide +kernel
theorem dJ6_bitCount_0f7a4_40 : decode cJ6_bitCount_0f7a4 40 = .ok (.istore_n 0, 1) := by decide +kernel
theorem dJ6_bitCount_0f7a4_41 : decode cJ6_bitCount_0f7a4 41 = .ok (.iload_n 0, 1) := by decide +kernel
theorem dJ6_bitCount_0f7a4_42 : decode cJ6_bitCount_0f7a4 42 = .ok (.iload_n 0, 1) := by decide +kernel
theorem dJ6_bitCount_0f7a4_43 : decode cJ6_bitCount_0f7a4 43 = .ok (.bipush 16, 2) := by decide +kernel
theorem dJ6_bitCount_0f7a4_45 : decode cJ6_bitCount_0f7a4 45 = .ok (.iushr, 1) := by decide +kernel
theorem dJ6_bitCount_0f7a4_46 : decode cJ6_bitCount_0f7a4 46 = .ok (.iadd, 1) := by decide +kernel
theorem dJ6_bitCount_0f7a4_47 : decode cJ6_bitCount_0f7a4 47 = .ok (.istore_n 0, 1) := by decide +kernel
theorem dJ6_bitCount_0f7a4_48 : decode cJ6_bitCount_0f7a4 48 = .ok (.iload_n 0, 1) := by decide +kernel
theorem dJ6_bitCount_0f7a4_49 : decode cJ6_bitCount_0f7a4 49 = .ok (.bipush 63, 2) := by decide +kernel
theorem dJ6_bitCount_0f7a4_51 : decode cJ6_bitCount_0f7a4 51 = .ok (.iand, 1) := by decide +kernel
theorem dJ6_bitCount_0f7a4_52 : decode cJ6_bitCount_0f7a4 52 = .ok (.ireturn, 1) := by decide +kernel
theorem dJ9_max_7cf53_0 : decode cJ9_max_7cf53 0 = .ok (.iload_n 0, 1) := by decide +kernel
theorem dJ9_max_7cf53_1 : decode cJ9_max_7cf53 1 = .ok (.iload_n 1, 1) := by decide +kernel
theorem dJ9_max_7cf53_2 : decode cJ9_max_7cf53 2 = .ok (.if_icmp .lt 7, 3) := by decide +kernel
theorem dJ9_max_7cf53_5 : decode cJ9_max_7cf53 5 = .ok (.iload_n 0, 1) := by decide +kernel
theorem dJ9_max_7cf53_6 : decode cJ9_max_7cf53 6 = .ok (.goto 4, 3) := by decide +kernel
theorem dJ9_max_7cf53_9 : decode cJ9_max_7cf53 9 = .ok (.iload_n 1, 1) := by decide +kernel
theorem dJ9_max_7cf53_10 : decode cJ9_max_7cf53 10 = .ok (.ireturn, 1) := by decide +kernel
theorem dJ9_min_7cf53_0 : decode cJ9_min_7cf53 0 = .ok (.iload_n 0, 1) := by decide +kernel
theorem dJ9_min_7cf53_1 : decode cJ9_min_7cf53 1 = .ok (.iload_n 1, 1) := by decide +kernel
theorem dJ9_min_7cf53_2 : decode cJ9_min_7cf53 2 = .ok (.if_icmp .gt 7, 3) := by decide +kernel
theorem dJ9_min_7cf53_5 : decode cJ9_min_7cf53 5 = .ok (.iload_n 0, 1) := by decide +kernel
theorem dJ9_min_7cf53_6 : decode cJ9_min_7cf53 6 = .ok (.goto 4, 3) := by decide +kernel
theorem dJ9_min_7cf53_9 : decode cJ9_min_7cf53 9 = .ok (.iload_n 1, 1) := by decide +kernel
theorem dJ9_min_7cf53_10 : decode cJ9_min_7cf53 10 = .ok (.ireturn, 1) := by decide +kernel
theorem dJ7_rangeCheck_23922_0 : decode cJ7_rangeCheck_23922 0 = .ok (.iload_n 1, 1) := by decide +kernel
theorem dJ7_rangeCheck_23922_1 : decode cJ7_rangeCheck_23922 1 = .ok (.iload_n 2, 1) := by decide +kernel
theorem dJ7_rangeCheck_23922_2 : decode cJ7_rangeCheck_23922 2 = .ok (.if_icmp .le 44, 3) := by decide +kernel
theorem dJ7_rangeCheck_23922_5 : decode cJ7_rangeCheck_23922 5 = .ok (.new 43, 3) := by decide +kernel
theorem dJ7_rangeCheck_23922_8 : decode cJ7_rangeCheck_23922 8 = .ok (.dup, 1) := by decide +kernel
theorem dJ7_rangeCheck_23922_9 : decode cJ7_rangeCheck_23922 9 = .ok (.new 45, 3) := by decide +kernel
theorem dJ7_rangeCheck_23922_12 : decode cJ7_rangeCheck_23922 12 = .ok (.dup, 1) := by decide +kernel
theorem dJ7_rangeCheck_23922_13 : decode cJ7_rangeCheck_23922 13 = .ok (.invokespecial 47, 3) := by decide +kernel
theorem dJ7_rangeCheck_23922_16 : decode cJ7_rangeCheck_23922 16 = .ok (.ldc 48, 2) := by decide +kernel
theorem dJ7_rangeCheck_23922_18 : decode cJ7_rangeCheck_23922 18 = .ok (.invokevirtual 50, 3) := by decide +kernel
theorem dJ7_rangeCheck_23922_21 : decode cJ7_rangeCheck_23922 21 = .ok (.iload_n 1, 1) := by decide +kernel
theorem dJ7_rangeCheck_23922_22 : decode cJ7_rangeCheck_23922 22 = .ok (.invokevirtual 54, 3) := by decide +kernel
theorem dJ7_rangeCheck_23922_25 : decode cJ7_rangeCheck_23922 25 = .ok (.ldc 57, 2) := by decide +kernel
theorem dJ7_rangeCheck_23922_27 : decode cJ7_rangeCheck_23922 27 = .ok (.invokevirtual 50, 3) := by decide +kernel
theorem dJ7_rangeCheck_23922_30 : decode cJ7_rangeCheck_23922 30 = .ok (.iload_n 2, 1) := by decide +kernel
theorem dJ7_rangeCheck_23922_31 : decode cJ7_rangeCheck_23922 31 = .ok (.invokevirtual 54, 3) := by decide +kernel
theorem dJ7_rangeCheck_23922_34 : decode cJ7_rangeCheck_23922 34 = .ok (.ldc 59, 2) := by decide +kernel
theorem dJ7_rangeCheck_23922_36 : decode cJ7_rangeCheck_23922 36 = .ok (.invokevirtual 50, 3) := by decide +kernel
theorem dJ7_rangeCheck_23922_39 : decode cJ7_rangeCheck_23922 39 = .ok (.invokevirtual 61, 3) := by decide +kernel
theorem dJ7_rangeCheck_23922_42 : decode cJ7_rangeCheck_23922 42 = .ok (.invokespecial 65, 3) := by decide +kernel
theorem dJ7_rangeCheck_23922_45 : decode cJ7_rangeCheck_23922 45 = .ok (.athrow, 1) := by decide +kernel
theorem dJ7_rangeCheck_23922_46 : decode cJ7_rangeCheck_23922 46 = .ok (.iload_n 1, 1) := by decide +kernel
theorem dJ7_rangeCheck_23922_47 : decode cJ7_rangeCheck_23922 47 = .ok (.ifCond .ge 12, 3) := by decide +kernel
theorem dJ7_rangeCheck_23922_50 : decode cJ7_rangeCheck_23922 50 = .ok (.new 68, 3) := by decide +kernel
theorem dJ7_rangeCheck_23922_53 : decode cJ7_rangeCheck_23922 53 = .ok (.dup, 1) := by decide +kernel
theorem dJ7_rangeCheck_23922_54 : decode cJ7_rangeCheck_23922 54 = .ok (.iload_n 1, 1) := by decide +kernel
theorem dJ7_rangeCheck_23922_55 : decode cJ7_rangeCheck_23922 55 = .ok (.invokespecial 70, 3) := by decide +kernel
theorem dJ7_rangeCheck_23922_58 : decode cJ7_rangeCheck_23922 58 = .ok (.athrow, 1) := by decide +kernel
theorem dJ7_rangeCheck_23922_59 : decode cJ7_rangeCheck_23922 59 = .ok (.iload_n 2, 1) := by decide +kernel
theorem dJ7_rangeCheck_23922_60 : decode cJ7_rangeCheck_23922 60 = .ok (.iload_n 0, 1) := by decide +kernel
theorem dJ7_rangeCheck_23922_61 : decode cJ7_rangeCheck_23922 61 = .ok (.if_icmp .le 12, 3) := by decide +kernel
theorem dJ7_rangeCheck_23922_64 : decode cJ7_rangeCheck_23922 64 = .ok (.new 68, 3) := by decide +kernel
theorem dJ7_rangeCheck_23922_67 : decode cJ7_rangeCheck_23922 67 = .ok (.dup, 1) := by decide +kernel
theorem dJ7_rangeCheck_23922_68 : decode cJ7_rangeCheck_23922 68 = .ok (.iload_n 2, 1) := by decide +kernel
theorem dJ7_rangeCheck_23922_69 : decode cJ7_rangeCheck_23922 69 = .ok (.invokespecial 70, 3) := by decide +kernel
theorem dJ7_rangeCheck_23922_72 : decode cJ7_rangeCheck_23922 72 = .ok (.athrow, 1) := by decide +kernel
theorem dJ7_rangeCheck_23922_73 : decode cJ7_rangeCheck_23922 73 = .ok (.return_, 1) := by decide +kernel
theorem dJ7_fill_53178_0 : decode cJ7_fill_53178 0 = .ok (.iconst 0, 1) := by decide +kernel
theorem dJ7_fill_53178_1 : decode cJ7_fill_53178 1 = .ok (.istore_n 2, 1) := by decide +kernel
theorem dJ7_fill_53178_2 : decode cJ7_fill_53178 2 = .ok (.aload_n 0, 1) := by decide +kernel
theorem dJ7_fill_53178_3 : decode cJ7_fill_53178 3 = .ok (.arraylength, 1) := by decide +kernel
theorem dJ7_fill_53178_4 : decode cJ7_fill_53178 4 = .ok (.istore_n 3, 1) := by decide +kernel
theorem dJ7_fill_53178_5 : decode cJ7_fill_53178 5 = .ok (.iload_n 2, 1) := by decide +kernel
theorem dJ7_fill_53178_6 : decode cJ7_fill_53178 6 = .ok (.iload_n 3, 1) := by decide +kernel
theorem dJ7_fill_53178_7 : decode cJ7_fill_53178 7 = .ok (.if_icmp .ge 13, 3) := by decide +kernel
theorem dJ7_fill_53178_10 : decode cJ7_fill_53178 10 = .ok (.aload_n 0, 1) := by decide +kernel
theorem dJ7_fill_53178_11 : decode cJ7_fill_53178 11 = .ok (.iload_n 2, 1) := by decide +kernel
theorem dJ7_fill_53178_12 : decode cJ7_fill_53178 12 = .ok (.iload_n 1, 1) := by decide +kernel
theorem dJ7_fill_53178_13 : decode cJ7_fill_53178 13 = .ok (.iastore, 1) := by decide +kernel
theorem dJ7_fill_53178_14 : decode cJ7_fill_53178 14 = .ok (.iinc 2 1, 3) := by decide +kernel
theorem dJ7_fill_53178_17 : decode cJ7_fill_53178 17 = .ok (.goto (-12), 3) := by decide +kernel
theorem dJ7_fill_53178_20 : decode cJ7_fill_53178 20 = .ok (.return_, 1) := by decide +kernel
theorem dJ7_fill_fda19_0 : decode cJ7_fill_fda19 0 = .ok (.aload_n 0, 1) := by decide +kernel
theorem dJ7_fill_fda19_1 : decode cJ7_fill_fda19 1 = .ok (.arraylength, 1) := by decide +kernel
theorem dJ7_fill_fda19_2 : decode cJ7_fill_fda19 2 = .ok (.iload_n 1, 1) := by decide +kernel
theorem dJ7_fill_fda19_3 : decode cJ7_fill_fda19 3 = .ok (.iload_n 2, 1) := by decide +kernel
theorem dJ7_fill_fda19_4 : decode cJ7_fill_fda19 4 = .ok (.invokestatic 13, 3) := by decide +kernel
theorem dJ7_fill_fda19_7 : decode cJ7_fill_fda19 7 = .ok (.iload_n 1, 1) := by decide +kernel
theorem dJ7_fill_fda19_8 : decode cJ7_fill_fda19 8 = .ok (.istore 4, 2) := by decide +kernel
theorem dJ7_fill_fda19_10 : decode cJ7_fill_fda19 10 = .ok (.iload 4, 2) := by decide +kernel
theorem dJ7_fill_fda19_12 : decode cJ7_fill_fda19 12 = .ok (.iload_n 2, 1) := by decide +kernel
theorem dJ7_fill_fda19_13 : decode cJ7_fill_fda19 13 = .ok (.if_icmp .ge 14, 3) := by decide +kernel
theorem dJ7_fill_fda19_16 : decode cJ7_fill_fda19 16 = .ok (.aload_n 0, 1) := by decide +kernel
theorem dJ7_fill_fda19_17 : decode cJ7_fill_fda19 17 = .ok (.iload 4, 2) := by decide +kernel
theorem dJ7_fill_fda19_19 : decode cJ7_fill_fda19 19 = .ok (.iload_n 3, 1) := by decide +kernel
theorem dJ7_fill_fda19_20 : decode cJ7_fill_fda19 20 = .ok (.iastore, 1) := by decide +kernel
theorem dJ7_fill_fda19_21 : decode cJ7_fill_fda19 21 = .ok (.iinc 4 1, 3) := by decide +kernel
theorem dJ7_fill_fda19_24 : decode cJ7_fill_fda19 24 = .ok (.goto (-14), 3) := by decide +kernel
theorem dJ7_fill_fda19_27 : decode cJ7_fill_fda19 27 = .ok (.return_, 1) := by decide +kernel
theorem dL_law_0 : decode cL_law 0 = .ok (.new 7, 3) := by decide +kernel
theorem dL_law_3 : decode cL_law 3 = .ok (.dup, 1) := by decide +kernel
theorem dL_law_4 : decode cL_law 4 = .ok (.invokespecial 9, 3) := by decide +kernel
theorem dL_law_7 : decode cL_law 7 = .ok (.astore_n 1, 1) := by decide +kernel
theorem dL_law_8 : decode cL_law 8 = .ok (.new 10, 3) := by decide +kernel
theorem dL_law_11 : decode cL_law 11 = .ok (.dup, 1) := by decide +kernel
theorem dL_law_12 : decode cL_law 12 = .ok (.invokespecial 12, 3) := by decide +kernel
theorem dL_law_15 : decode cL_law 15 = .ok (.astore_n 2, 1) := by decide +kernel
theorem dL_law_16 : decode cL_law 16 = .ok (.iconst 0, 1) := by decide +kernel
theorem dL_law_17 : decode cL_law 17 = .ok (.istore_n 3, 1) := by decide +kernel
theorem dL_law_18 : decode cL_law 18 = .ok (.iload_n 3, 1) := by decide +kernel
theorem dL_law_19 : decode cL_law 19 = .ok (.aload_n 0, 1) := by decide +kernel
theorem dL_law_20 : decode cL_law 20 = .ok (.arraylength, 1) := by decide +kernel
theorem dL_law_21 : decode cL_law 21 = .ok (.bipush 6, 2) := by decide +kernel
theorem dL_law_23 : decode cL_law 23 = .ok (.isub, 1) := by decide +kernel
theorem dL_law_24 : decode cL_law 24 = .ok (.if_icmp .gt 603, 3) := by decide +kernel
theorem dL_law_27 : decode cL_law 27 = .ok (.aload_n 0, 1) := by decide +kernel
theorem dL_law_28 : decode cL_law 28 = .ok (.iload_n 3, 1) := by decide +kernel
theorem dL_law_29 : decode cL_law 29 = .ok (.iaload, 1) := by decide +kernel
theorem dL_law_30 : decode cL_law 30 = .ok (.bipush 31, 2) := by decide +kernel
theorem dL_law_32 : decode cL_law 32 = .ok (.iand, 1) := by decide +kernel
theorem dL_law_33 : decode cL_law 33 = .ok (.tableswitch 588 0 18 #[91, 154, 167, 180, 193, 216, 229, 242, 255, 288, 321, 344, 377, 400, 413, 456, 539, 552, 565], 91) := by decide +kernel
theorem dL_law_124 : decode cL_law 124 = .ok (.aload_n 1, 1) := by decide +kernel
theorem dL_law_125 : decode cL_law 125 = .ok (.aload_n 0, 1) := by decide +kernel
theorem dL_law_126 : decode cL_law 126 = .ok (.iload_n 3, 1) := by decide +kernel
theorem dL_law_127 : decode cL_law 127 = .ok (.iconst 1, 1) := by decide +kernel
theorem dL_law_128 : decode cL_law 128 = .ok (.iadd, 1) := by decide +kernel
theorem dL_law_129 : decode cL_law 129 = .ok (.iaload, 1) := by decide +kernel
theorem dL_law_130 : decode cL_law 130 = .ok (.aload_n 0, 1) := by decide +kernel
theorem dL_law_131 : decode cL_law 131 = .ok (.iload_n 3, 1) := by decide +kernel
theorem dL_law_132 : decode cL_law 132 = .ok (.iconst 2, 1) := by decide +kernel
theorem dL_law_133 : decode cL_law 133 = .ok (.iadd, 1) := by decide +kernel
theorem dL_law_134 : decode cL_law 134 = .ok (.iaload, 1) := by decide +kernel
theorem dL_law_135 : decode cL_law 135 = .ok (.i2l, 1) := by decide +kernel
theorem dL_law_136 : decode cL_law 136 = .ok (.bipush 32, 2) := by decide +kernel
theorem dL_law_138 : decode cL_law 138 = .ok (.lshl, 1) := by decide +kernel
theorem dL_law_139 : decode cL_law 139 = .ok (.aload_n 0, 1) := by decide +kernel
theorem dL_law_140 : decode cL_law 140 = .ok (.iload_n 3, 1) := by decide +kernel
theorem dL_law_141 : decode cL_law 141 = .ok (.iconst 3, 1) := by decide +kernel
theorem dL_law_142 : decode cL_law 142 = .ok (.iadd, 1) := by decide +kernel
theorem dL_law_143 : decode cL_law 143 = .ok (.iaload, 1) := by decide +kernel
theorem dL_law_144 : decode cL_law 144 = .ok (.i2l, 1) := by decide +kernel
theorem dL_law_145 : decode cL_law 145 = .ok (.ldc2_w 13, 3) := by decide +kernel
theorem dL_law_148 : decode cL_law 148 = .ok (.land, 1) := by decide +kernel
theorem dL_law_149 : decode cL_law 149 = .ok (.lor, 1) := by decide +kernel
theorem dL_law_150 : decode cL_law 150 = .ok (.invokevirtual 15, 3) := by decide +kernel
theorem dL_law_153 : decode cL_law 153 = .ok (.aload_n 2, 1) := by decide +kernel
theorem dL_law_154 : decode cL_law 154 = .ok (.aload_n 0, 1) := by decide +kernel
theorem dL_law_155 : decode cL_law 155 = .ok (.iload_n 3, 1) := by decide +kernel
theorem dL_law_156 : decode cL_law 156 = .ok (.iconst 1, 1) := by decide +kernel
theorem dL_law_157 : decode cL_law 157 = .ok (.iadd, 1) := by decide +kernel
theorem dL_law_158 : decode cL_law 158 = .ok (.iaload, 1) := by decide +kernel
theorem dL_law_159 : decode cL_law 159 = .ok (.aload_n 0, 1) := by decide +kernel
theorem dL_law_160 : decode cL_law 160 = .ok (.iload_n 3, 1) := by decide +kernel
theorem dL_law_161 : decode cL_law 161 = .ok (.iconst 2, 1) := by decide +kernel
theorem dL_law_162 : decode cL_law 162 = .ok (.iadd, 1) := by decide +kernel
theorem dL_law_163 : decode cL_law 163 = .ok (.iaload, 1) := by decide +kernel
theorem dL_law_164 : decode cL_law 164 = .ok (.i2l, 1) := by decide +kernel
theorem dL_law_165 : decode cL_law 165 = .ok (.bipush 32, 2) := by decide +kernel
theorem dL_law_167 : decode cL_law 167 = .ok (.lshl, 1) := by decide +kernel
theorem dL_law_168 : decode cL_law 168 = .ok (.aload_n 0, 1) := by decide +kernel
theorem dL_law_169 : decode cL_law 169 = .ok (.iload_n 3, 1) := by decide +kernel
theorem dL_law_170 : decode cL_law 170 = .ok (.iconst 3, 1) := by decide +kernel
theorem dL_law_171 : decode cL_law 171 = .ok (.iadd, 1) := by decide +kernel
theorem dL_law_172 : decode cL_law 172 = .ok (.iaload, 1) := by decide +kernel
theorem dL_law_173 : decode cL_law 173 = .ok (.i2l, 1) := by decide +kernel
theorem dL_law_174 : decode cL_law 174 = .ok (.ldc2_w 13, 3) := by decide +kernel
theorem dL_law_177 : decode cL_law 177 = .ok (.land, 1) := by decide +kernel
theorem dL_law_178 : decode cL_law 178 = .ok (.lor, 1) := by decide +kernel
theorem dL_law_179 : decode cL_law 179 = .ok (.invokevirtual 19, 3) := by decide +kernel
theorem dL_law_182 : decode cL_law 182 = .ok (.if_icmp .eq 439, 3) := by decide +kernel
theorem dL_law_185 : decode cL_law 185 = .ok (.iconst 0, 1) := by decide +kernel
theorem dL_law_186 : decode cL_law 186 = .ok (.ireturn, 1) := by decide +kernel
theorem dL_law_187 : decode cL_law 187 = .ok (.aload_n 1, 1) := by decide +kernel
theorem dL_law_188 : decode cL_law 188 = .ok (.invokevirtual 20, 3) := by decide +kernel
theorem dL_law_191 : decode cL_law 191 = .ok (.aload_n 2, 1) := by decide +kernel
theorem dL_law_192 : decode cL_law 192 = .ok (.invokevirtual 24, 3) := by decide +kernel
theorem dL_law_195 : decode cL_law 195 = .ok (.if_icmp .eq 426, 3) := by decide +kernel
theorem dL_law_198 : decode cL_law 198 = .ok (.iconst 0, 1) := by decide +kernel
theorem dL_law_199 : decode cL_law 199 = .ok (.ireturn, 1) := by decide +kernel
theorem dL_law_200 : decode cL_law 200 = .ok (.aload_n 1, 1) := by decide +kernel
theorem dL_law_201 : decode cL_law 201 = .ok (.invokevirtual 25, 3) := by decide +kernel
theorem dL_law_204 : decode cL_law 204 = .ok (.aload_n 2, 1) := by decide +kernel
theorem dL_law_205 : decode cL_law 205 = .ok (.invokevirtual 28, 3) := by decide +kernel
theorem dL_law_208 : decode cL_law 208 = .ok (.if_icmp .eq 413, 3) := by decide +kernel
theorem dL_law_211 : decode cL_law 211 = .ok (.iconst 0, 1) := by decide +kernel
theorem dL_law_212 : decode cL_law 212 = .ok (.ireturn, 1) := by decide +kernel
theorem dL_law_213 : decode cL_law 213 = .ok (.aload_n 1, 1) := by decide +kernel
theorem dL_law_214 : decode cL_law 214 = .ok (.invokevirtual 29, 3) := by decide +kernel
theorem dL_law_217 : decode cL_law 217 = .ok (.aload_n 2, 1) := by decide +kernel
theorem dL_law_218 : decode cL_law 218 = .ok (.invokevirtual 32, 3) := by decide +kernel
theorem dL_law_221 : decode cL_law 221 = .ok (.if_icmp .eq 400, 3) := by decide +kernel
theorem dL_law_224 : decode cL_law 224 = .ok (.iconst 0, 1) := by decide +kernel
theorem dL_law_225 : decode cL_law 225 = .ok (.ireturn, 1) := by decide +kernel
theorem dL_law_226 : decode cL_law 226 = .ok (.aload_n 1, 1) := by decide +kernel
theorem dL_law_227 : decode cL_law 227 = .ok (.aload_n 0, 1) := by decide +kernel
theorem dL_law_228 : decode cL_law 228 = .ok (.iload_n 3, 1) := by decide +kernel
theorem dL_law_229 : decode cL_law 229 = .ok (.iconst 1, 1) := by decide +kernel
theorem dL_law_230 : decode cL_law 230 = .ok (.iadd, 1) := by decide +kernel
theorem dL_law_231 : decode cL_law 231 = .ok (.iaload, 1) := by decide +kernel
theorem dL_law_232 : decode cL_law 232 = .ok (.invokevirtual 33, 3) := by decide +kernel
theorem dL_law_235 : decode cL_law 235 = .ok (.aload_n 2, 1) := by decide +kernel
theorem dL_law_236 : decode cL_law 236 = .ok (.aload_n 0, 1) := by decide +kernel
theorem dL_law_237 : decode cL_law 237 = .ok (.iload_n 3, 1) := by decide +kernel
theorem dL_law_238 : decode cL_law 238 = .ok (.iconst 1, 1) := by decide +kernel
theorem dL_law_239 : decode cL_law 239 = .ok (.iadd, 1) := by decide +kernel
theorem dL_law_240 : decode cL_law 240 = .ok (.iaload, 1) := by decide +kernel
theorem dL_law_241 : decode cL_law 241 = .ok (.invokevirtual 37, 3) := by decide +kernel
theorem dL_law_244 : decode cL_law 244 = .ok (.if_icmp .eq 377, 3) := by decide +kernel
theorem dL_law_247 : decode cL_law 247 = .ok (.iconst 0, 1) := by decide +kernel
theorem dL_law_248 : decode cL_law 248 = .ok (.ireturn, 1) := by decide +kernel
theorem dL_law_249 : decode cL_law 249 = .ok (.aload_n 1, 1) := by decide +kernel
theorem dL_law_250 : decode cL_law 250 = .ok (.invokevirtual 38, 3) := by decide +kernel
theorem dL_law_253 : decode cL_law 253 = .ok (.aload_n 2, 1) := by decide +kernel
theorem dL_law_254 : decode cL_law 254 = .ok (.invokevirtual 41, 3) := by decide +kernel
theorem dL_law_257 : decode cL_law 257 = .ok (.if_icmp .eq 364, 3) := by decide +kernel
theorem dL_law_260 : decode cL_law 260 = .ok (.iconst 0, 1) := by decide +kernel
theorem dL_law_261 : decode cL_law 261 = .ok (.ireturn, 1) := by decide +kernel
theorem dL_law_262 : decode cL_law 262 = .ok (.aload_n 1, 1) := by decide +kernel
theorem dL_law_263 : decode cL_law 263 = .ok (.invokevirtual 42, 3) := by decide +kernel
theorem dL_law_266 : decode cL_law 266 = .ok (.aload_n 2, 1) := by decide +kernel
theorem dL_law_267 : decode cL_law 267 = .ok (.invokevirtual 45, 3) := by decide +kernel
theorem dL_law_270 : decode cL_law 270 = .ok (.if_icmp .eq 351, 3) := by decide +kernel
theorem dL_law_273 : decode cL_law 273 = .ok (.iconst 0, 1) := by decide +kernel
theorem dL_law_274 : decode cL_law 274 = .ok (.ireturn, 1) := by decide +kernel
theorem dL_law_275 : decode cL_law 275 = .ok (.aload_n 1, 1) := by decide +kernel
theorem dL_law_276 : decode cL_law 276 = .ok (.invokevirtual 46, 3) := by decide +kernel
theorem dL_law_279 : decode cL_law 279 = .ok (.aload_n 2, 1) := by decide +kernel
theorem dL_law_280 : decode cL_law 280 = .ok (.invokevirtual 49, 3) := by decide +kernel
theorem dL_law_283 : decode cL_law 283 = .ok (.if_icmp .eq 338, 3) := by decide +kernel
theorem dL_law_286 : decode cL_law 286 = .ok (.iconst 0, 1) := by decide +kernel
theorem dL_law_287 : decode cL_law 287 = .ok (.ireturn, 1) := by decide +kernel
theorem dL_law_288 : decode cL_law 288 = .ok (.aload_n 1, 1) := by decide +kernel
theorem dL_law_289 : decode cL_law 289 = .ok (.aload_n 0, 1) := by decide +kernel
theorem dL_law_290 : decode cL_law 290 = .ok (.iload_n 3, 1) := by decide +kernel
theorem dL_law_291 : decode cL_law 291 = .ok (.iconst 1, 1) := by decide +kernel
theorem dL_law_292 : decode cL_law 292 = .ok (.iadd, 1) := by decide +kernel
theorem dL_law_293 : decode cL_law 293 = .ok (.iaload, 1) := by decide +kernel
theorem dL_law_294 : decode cL_law 294 = .ok (.aload_n 0, 1) := by decide +kernel
theorem dL_law_295 : decode cL_law 295 = .ok (.iload_n 3, 1) := by decide +kernel
theorem dL_law_296 : decode cL_law 296 = .ok (.iconst 2, 1) := by decide +kernel
theorem dL_law_297 : decode cL_law 297 = .ok (.iadd, 1) := by decide +kernel
theorem dL_law_298 : decode cL_law 298 = .ok (.iaload, 1) := by decide +kernel
theorem dL_law_299 : decode cL_law 299 = .ok (.invokevirtual 50, 3) := by decide +kernel
theorem dL_law_302 : decode cL_law 302 = .ok (.aload_n 2, 1) := by decide +kernel
theorem dL_law_303 : decode cL_law 303 = .ok (.aload_n 0, 1) := by decide +kernel
theorem dL_law_304 : decode cL_law 304 = .ok (.iload_n 3, 1) := by decide +kernel
theorem dL_law_305 : decode cL_law 305 = .ok (.iconst 1, 1) := by decide +kernel
theorem dL_law_306 : decode cL_law 306 = .ok (.iadd, 1) := by decide +kernel
theorem dL_law_307 : decode cL_law 307 = .ok (.iaload, 1) := by decide +kernel
theorem dL_law_308 : decode cL_law 308 = .ok (.aload_n 0, 1) := by decide +kernel
theorem dL_law_309 : decode cL_law 309 = .ok (.iload_n 3, 1) := by decide +kernel
theorem dL_law_310 : decode cL_law 310 = .ok (.iconst 2, 1) := by decide +kernel
theorem dL_law_311 : decode cL_law 311 = .ok (.iadd, 1) := by decide +kernel
theorem dL_law_312 : decode cL_law 312 = .ok (.iaload, 1) := by decide +kernel
theorem dL_law_313 : decode cL_law 313 = .ok (.invokevirtual 54, 3) := by decide +kernel
theorem dL_law_316 : decode cL_law 316 = .ok (.if_icmp .eq 305, 3) := by decide +kernel
theorem dL_law_319 : decode cL_law 319 = .ok (.iconst 0, 1) := by decide +kernel
theorem dL_law_320 : decode cL_law 320 = .ok (.ireturn, 1) := by decide +kernel
theorem dL_law_321 : decode cL_law 321 = .ok (.aload_n 1, 1) := by decide +kernel
theorem dL_law_322 : decode cL_law 322 = .ok (.aload_n 0, 1) := by decide +kernel
theorem dL_law_323 : decode cL_law 323 = .ok (.iload_n 3, 1) := by decide +kernel
theorem dL_law_324 : decode cL_law 324 = .ok (.iconst 1, 1) := by decide +kernel
theorem dL_law_325 : decode cL_law 325 = .ok (.iadd, 1) := by decide +kernel
theorem dL_law_326 : decode cL_law 326 = .ok (.iaload, 1) := by decide +kernel
theorem dL_law_327 : decode cL_law 327 = .ok (.aload_n 0, 1) := by decide +kernel
theorem dL_law_328 : decode cL_law 328 = .ok (.iload_n 3, 1) := by decide +kernel
theorem dL_law_329 : decode cL_law 329 = .ok (.iconst 2, 1) := by decide +kernel
theorem dL_law_330 : decode cL_law 330 = .ok (.iadd, 1) := by decide +kernel
theorem dL_law_331 : decode cL_law 331 = .ok (.iaload, 1) := by decide +kernel
theorem dL_law_332 : decode cL_law 332 = .ok (.invokevirtual 55, 3) := by decide +kernel
theorem dL_law_335 : decode cL_law 335 = .ok (.aload_n 2, 1) := by decide +kernel
theorem dL_law_336 : decode cL_law 336 = .ok (.aload_n 0, 1) := by decide +kernel
theorem dL_law_337 : decode cL_law 337 = .ok (.iload_n 3, 1) := by decide +kernel
theorem dL_law_338 : decode cL_law 338 = .ok (.iconst 1, 1) := by decide +kernel
theorem dL_law_339 : decode cL_law 339 = .ok (.iadd, 1) := by decide +kernel
theorem dL_law_340 : decode cL_law 340 = .ok (.iaload, 1) := by decide +kernel
theorem dL_law_341 : decode cL_law 341 = .ok (.aload_n 0, 1) := by decide +kernel
theorem dL_law_342 : decode cL_law 342 = .ok (.iload_n 3, 1) := by decide +kernel
theorem dL_law_343 : decode cL_law 343 = .ok (.iconst 2, 1) := by decide +kernel
theorem dL_law_344 : decode cL_law 344 = .ok (.iadd, 1) := by decide +kernel
theorem dL_law_345 : decode cL_law 345 = .ok (.iaload, 1) := by decide +kernel
theorem dL_law_346 : decode cL_law 346 = .ok (.invokevirtual 58, 3) := by decide +kernel
theorem dL_law_349 : decode cL_law 349 = .ok (.if_icmp .eq 272, 3) := by decide +kernel
theorem dL_law_352 : decode cL_law 352 = .ok (.iconst 0, 1) := by decide +kernel
theorem dL_law_353 : decode cL_law 353 = .ok (.ireturn, 1) := by decide +kernel
theorem dL_law_354 : decode cL_law 354 = .ok (.aload_n 1, 1) := by decide +kernel
theorem dL_law_355 : decode cL_law 355 = .ok (.aload_n 0, 1) := by decide +kernel
theorem dL_law_356 : decode cL_law 356 = .ok (.iload_n 3, 1) := by decide +kernel
theorem dL_law_357 : decode cL_law 357 = .ok (.iconst 1, 1) := by decide +kernel
theorem dL_law_358 : decode cL_law 358 = .ok (.iadd, 1) := by decide +kernel
theorem dL_law_359 : decode cL_law 359 = .ok (.iaload, 1) := by decide +kernel
theorem dL_law_360 : decode cL_law 360 = .ok (.invokevirtual 59, 3) := by decide +kernel
theorem dL_law_363 : decode cL_law 363 = .ok (.aload_n 2, 1) := by decide +kernel
theorem dL_law_364 : decode cL_law 364 = .ok (.aload_n 0, 1) := by decide +kernel
theorem dL_law_365 : decode cL_law 365 = .ok (.iload_n 3, 1) := by decide +kernel
theorem dL_law_366 : decode cL_law 366 = .ok (.iconst 1, 1) := by decide +kernel
theorem dL_law_367 : decode cL_law 367 = .ok (.iadd, 1) := by decide +kernel
theorem dL_law_368 : decode cL_law 368 = .ok (.iaload, 1) := by decide +kernel
theorem dL_law_369 : decode cL_law 369 = .ok (.invokevirtual 62, 3) := by decide +kernel
theorem dL_law_372 : decode cL_law 372 = .ok (.if_icmp .eq 249, 3) := by decide +kernel
theorem dL_law_375 : decode cL_law 375 = .ok (.iconst 0, 1) := by decide +kernel
theorem dL_law_376 : decode cL_law 376 = .ok (.ireturn, 1) := by decide +kernel
theorem dL_law_377 : decode cL_law 377 = .ok (.aload_n 1, 1) := by decide +kernel
theorem dL_law_378 : decode cL_law 378 = .ok (.aload_n 0, 1) := by decide +kernel
theorem dL_law_379 : decode cL_law 379 = .ok (.iload_n 3, 1) := by decide +kernel
theorem dL_law_380 : decode cL_law 380 = .ok (.iconst 1, 1) := by decide +kernel
theorem dL_law_381 : decode cL_law 381 = .ok (.iadd, 1) := by decide +kernel
theorem dL_law_382 : decode cL_law 382 = .ok (.iaload, 1) := by decide +kernel
theorem dL_law_383 : decode cL_law 383 = .ok (.aload_n 0, 1) := by decide +kernel
theorem dL_law_384 : decode cL_law 384 = .ok (.iload_n 3, 1) := by decide +kernel
theorem dL_law_385 : decode cL_law 385 = .ok (.iconst 2, 1) := by decide +kernel
theorem dL_law_386 : decode cL_law 386 = .ok (.iadd, 1) := by decide +kernel
theorem dL_law_387 : decode cL_law 387 = .ok (.iaload, 1) := by decide +kernel
theorem dL_law_388 : decode cL_law 388 = .ok (.invokevirtual 63, 3) := by decide +kernel
theorem dL_law_391 : decode cL_law 391 = .ok (.aload_n 2, 1) := by decide +kernel
theorem dL_law_392 : decode cL_law 392 = .ok (.aload_n 0, 1) := by decide +kernel
theorem dL_law_393 : decode cL_law 393 = .ok (.iload_n 3, 1) := by decide +kernel
theorem dL_law_394 : decode cL_law 394 = .ok (.iconst 1, 1) := by decide +kernel
theorem dL_law_395 : decode cL_law 395 = .ok (.iadd, 1) := by decide +kernel
theorem dL_law_396 : decode cL_law 396 = .ok (.iaload, 1) := by decide +kernel
theorem dL_law_397 : decode cL_law 397 = .ok (.aload_n 0, 1) := by decide +kernel
theorem dL_law_398 : decode cL_law 398 = .ok (.iload_n 3, 1) := by decide +kernel
theorem dL_law_399 : decode cL_law 399 = .ok (.iconst 2, 1) := by decide +kernel
theorem dL_law_400 : decode cL_law 400 = .ok (.iadd, 1) := by decide +kernel
theorem dL_law_401 : decode cL_law 401 = .ok (.iaload, 1) := by decide +kernel
theorem dL_law_402 : decode cL_law 402 = .ok (.invokevirtual 66, 3) := by decide +kernel
theorem dL_law_405 : decode cL_law 405 = .ok (.if_icmp .eq 216, 3) := by decide +kernel
theorem dL_law_408 : decode cL_law 408 = .ok (.iconst 0, 1) := by decide +kernel
theorem dL_law_409 : decode cL_law 409 = .ok (.ireturn, 1) := by decide +kernel
theorem dL_law_410 : decode cL_law 410 = .ok (.aload_n 1, 1) := by decide +kernel
theorem dL_law_411 : decode cL_law 411 = .ok (.aload_n 0, 1) := by decide +kernel
theorem dL_law_412 : decode cL_law 412 = .ok (.iload_n 3, 1) := by decide +kernel
theorem dL_law_413 : decode cL_law 413 = .ok (.iconst 1, 1) := by decide +kernel
theorem dL_law_414 : decode cL_law 414 = .ok (.iadd, 1) := by decide +kernel
theorem dL_law_415 : decode cL_law 415 = .ok (.iaload, 1) := by decide +kernel
theorem dL_law_416 : decode cL_law 416 = .ok (.invokevirtual 67, 3) := by decide +kernel
theorem dL_law_419 : decode cL_law 419 = .ok (.aload_n 2, 1) := by decide +kernel
theorem dL_law_420 : decode cL_law 420 = .ok (.aload_n 0, 1) := by decide +kernel
theorem dL_law_421 : decode cL_law 421 = .ok (.iload_n 3, 1) := by decide +kernel
theorem dL_law_422 : decode cL_law 422 = .ok (.iconst 1, 1) := by decide +kernel
theorem dL_law_423 : decode cL_law 423 = .ok (.iadd, 1) := by decide +kernel
theorem dL_law_424 : decode cL_law 424 = .ok (.iaload, 1) := by decide +kernel
theorem dL_law_425 : decode cL_law 425 = .ok (.invokevirtual 70, 3) := by decide +kernel
theorem dL_law_428 : decode cL_law 428 = .ok (.if_icmp .eq 193, 3) := by decide +kernel
theorem dL_law_431 : decode cL_law 431 = .ok (.iconst 0, 1) := by decide +kernel
theorem dL_law_432 : decode cL_law 432 = .ok (.ireturn, 1) := by decide +kernel
theorem dL_law_433 : decode cL_law 433 = .ok (.aload_n 1, 1) := by decide +kernel
theorem dL_law_434 : decode cL_law 434 = .ok (.invokevirtual 71, 3) := by decide +kernel
theorem dL_law_437 : decode cL_law 437 = .ok (.aload_n 2, 1) := by decide +kernel
theorem dL_law_438 : decode cL_law 438 = .ok (.invokevirtual 74, 3) := by decide +kernel
theorem dL_law_441 : decode cL_law 441 = .ok (.if_icmp .eq 180, 3) := by decide +kernel
theorem dL_law_444 : decode cL_law 444 = .ok (.iconst 0, 1) := by decide +kernel
theorem dL_law_445 : decode cL_law 445 = .ok (.ireturn, 1) := by decide +kernel
theorem dL_law_446 : decode cL_law 446 = .ok (.aload_n 1, 1) := by decide +kernel
theorem dL_law_447 : decode cL_law 447 = .ok (.aload_n 0, 1) := by decide +kernel
theorem dL_law_448 : decode cL_law 448 = .ok (.iload_n 3, 1) := by decide +kernel
theorem dL_law_449 : decode cL_law 449 = .ok (.iconst 1, 1) := by decide +kernel
theorem dL_law_450 : decode cL_law 450 = .ok (.iadd, 1) := by decide +kernel
theorem dL_law_451 : decode cL_law 451 = .ok (.iaload, 1) := by decide +kernel
theorem dL_law_452 : decode cL_law 452 = .ok (.aload_n 0, 1) := by decide +kernel
theorem dL_law_453 : decode cL_law 453 = .ok (.iload_n 3, 1) := by decide +kernel
theorem dL_law_454 : decode cL_law 454 = .ok (.iconst 2, 1) := by decide +kernel
theorem dL_law_455 : decode cL_law 455 = .ok (.iadd, 1) := by decide +kernel
theorem dL_law_456 : decode cL_law 456 = .ok (.iaload, 1) := by decide +kernel
theorem dL_law_457 : decode cL_law 457 = .ok (.aload_n 0, 1) := by decide +kernel
theorem dL_law_458 : decode cL_law 458 = .ok (.iload_n 3, 1) := by decide +kernel
theorem dL_law_459 : decode cL_law 459 = .ok (.iconst 3, 1) := by decide +kernel
theorem dL_law_460 : decode cL_law 460 = .ok (.iadd, 1) := by decide +kernel
theorem dL_law_461 : decode cL_law 461 = .ok (.iaload, 1) := by decide +kernel
theorem dL_law_462 : decode cL_law 462 = .ok (.invokevirtual 75, 3) := by decide +kernel
theorem dL_law_465 : decode cL_law 465 = .ok (.aload_n 2, 1) := by decide +kernel
theorem dL_law_466 : decode cL_law 466 = .ok (.aload_n 0, 1) := by decide +kernel
theorem dL_law_467 : decode cL_law 467 = .ok (.iload_n 3, 1) := by decide +kernel
theorem dL_law_468 : decode cL_law 468 = .ok (.iconst 1, 1) := by decide +kernel
theorem dL_law_469 : decode cL_law 469 = .ok (.iadd, 1) := by decide +kernel
theorem dL_law_470 : decode cL_law 470 = .ok (.iaload, 1) := by decide +kernel
theorem dL_law_471 : decode cL_law 471 = .ok (.aload_n 0, 1) := by decide +kernel
theorem dL_law_472 : decode cL_law 472 = .ok (.iload_n 3, 1) := by decide +kernel
theorem dL_law_473 : decode cL_law 473 = .ok (.iconst 2, 1) := by decide +kernel
theorem dL_law_474 : decode cL_law 474 = .ok (.iadd, 1) := by decide +kernel
theorem dL_law_475 : decode cL_law 475 = .ok (.iaload, 1) := by decide +kernel
theorem dL_law_476 : decode cL_law 476 = .ok (.aload_n 0, 1) := by decide +kernel
theorem dL_law_477 : decode cL_law 477 = .ok (.iload_n 3, 1) := by decide +kernel
theorem dL_law_478 : decode cL_law 478 = .ok (.iconst 3, 1) := by decide +kernel
theorem dL_law_479 : decode cL_law 479 = .ok (.iadd, 1) := by decide +kernel
theorem dL_law_480 : decode cL_law 480 = .ok (.iaload, 1) := by decide +kernel
theorem dL_law_481 : decode cL_law 481 = .ok (.invokevirtual 79, 3) := by decide +kernel
theorem dL_law_484 : decode cL_law 484 = .ok (.if_icmp .eq 137, 3) := by decide +kernel
theorem dL_law_487 : decode cL_law 487 = .ok (.iconst 0, 1) := by decide +kernel
theorem dL_law_488 : decode cL_law 488 = .ok (.ireturn, 1) := by decide +kernel
theorem dL_law_489 : decode cL_law 489 = .ok (.aload_n 1, 1) := by decide +kernel
theorem dL_law_490 : decode cL_law 490 = .ok (.aload_n 0, 1) := by decide +kernel
theorem dL_law_491 : decode cL_law 491 = .ok (.iload_n 3, 1) := by decide +kernel
theorem dL_law_492 : decode cL_law 492 = .ok (.iconst 1, 1) := by decide +kernel
theorem dL_law_493 : decode cL_law 493 = .ok (.iadd, 1) := by decide +kernel
theorem dL_law_494 : decode cL_law 494 = .ok (.iaload, 1) := by decide +kernel
theorem dL_law_495 : decode cL_law 495 = .ok (.aload_n 0, 1) := by decide +kernel
theorem dL_law_496 : decode cL_law 496 = .ok (.iload_n 3, 1) := by decide +kernel
theorem dL_law_497 : decode cL_law 497 = .ok (.iconst 2, 1) := by decide +kernel
theorem dL_law_498 : decode cL_law 498 = .ok (.iadd, 1) := by decide +kernel
theorem dL_law_499 : decode cL_law 499 = .ok (.iaload, 1) := by decide +kernel
theorem dL_law_500 : decode cL_law 500 = .ok (.aload_n 0, 1) := by decide +kernel
theorem dL_law_501 : decode cL_law 501 = .ok (.iload_n 3, 1) := by decide +kernel
theorem dL_law_502 : decode cL_law 502 = .ok (.iconst 3, 1) := by decide +kernel
theorem dL_law_503 : decode cL_law 503 = .ok (.iadd, 1) := by decide +kernel
theorem dL_law_504 : decode cL_law 504 = .ok (.iaload, 1) := by decide +kernel
theorem dL_law_505 : decode cL_law 505 = .ok (.i2l, 1) := by decide +kernel
