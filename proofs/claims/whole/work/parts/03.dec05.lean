theorem dX12_reads_378 : decode cX12_reads 378 = .ok (.ifCond .le 7, 3) := by decide +kernel
theorem dX12_reads_381 : decode cX12_reads 381 = .ok (.iconst 1, 1) := by decide +kernel
theorem dX12_reads_382 : decode cX12_reads 382 = .ok (.goto 4, 3) := by decide +kernel
theorem dX12_reads_385 : decode cX12_reads 385 = .ok (.iconst 0, 1) := by decide +kernel
theorem dX12_reads_386 : decode cX12_reads 386 = .ok (.ireturn, 1) := by decide +kernel
theorem dX12_figure_0 : decode cX12_figure 0 = .ok (.aload_n 0, 1) := by decide +kernel
theorem dX12_figure_1 : decode cX12_figure 1 = .ok (.getfield 90, 3) := by decide +kernel
theorem dX12_figure_4 : decode cX12_figure 4 = .ok (.bipush 10, 2) := by decide +kernel
theorem dX12_figure_6 : decode cX12_figure 6 = .ok (.if_icmp .ne 6, 3) := by decide +kernel
theorem dX12_figure_9 : decode cX12_figure 9 = .ok (.bipush (-4), 2) := by decide +kernel
theorem dX12_figure_11 : decode cX12_figure 11 = .ok (.ireturn, 1) := by decide +kernel
theorem dX12_figure_12 : decode cX12_figure 12 = .ok (.aload_n 0, 1) := by decide +kernel
theorem dX12_figure_13 : decode cX12_figure 13 = .ok (.invokevirtual 254, 3) := by decide +kernel
theorem dX12_figure_16 : decode cX12_figure 16 = .ok (.istore_n 1, 1) := by decide +kernel
theorem dX12_figure_17 : decode cX12_figure 17 = .ok (.aload_n 0, 1) := by decide +kernel
theorem dX12_figure_18 : decode cX12_figure 18 = .ok (.iconst 0, 1) := by decide +kernel
theorem dX12_figure_19 : decode cX12_figure 19 = .ok (.putfield 93, 3) := by decide +kernel
theorem dX12_figure_22 : decode cX12_figure 22 = .ok (.iload_n 1, 1) := by decide +kernel
theorem dX12_figure_23 : decode cX12_figure 23 = .ok (.ifCond .ne 11, 3) := by decide +kernel
theorem dX12_figure_26 : decode cX12_figure 26 = .ok (.bipush (-10), 2) := by decide +kernel
theorem dX12_figure_28 : decode cX12_figure 28 = .ok (.aload_n 0, 1) := by decide +kernel
theorem dX12_figure_29 : decode cX12_figure 29 = .ok (.getfield 105, 3) := by decide +kernel
theorem dX12_figure_32 : decode cX12_figure 32 = .ok (.isub, 1) := by decide +kernel
theorem dX12_figure_33 : decode cX12_figure 33 = .ok (.ireturn, 1) := by decide +kernel
theorem dX12_figure_34 : decode cX12_figure 34 = .ok (.aload_n 0, 1) := by decide +kernel
theorem dX12_figure_35 : decode cX12_figure 35 = .ok (.getfield 108, 3) := by decide +kernel
theorem dX12_figure_38 : decode cX12_figure 38 = .ok (.ifCond .eq 6, 3) := by decide +kernel
theorem dX12_figure_41 : decode cX12_figure 41 = .ok (.bipush (-2), 2) := by decide +kernel
theorem dX12_figure_43 : decode cX12_figure 43 = .ok (.ireturn, 1) := by decide +kernel
theorem dX12_figure_44 : decode cX12_figure 44 = .ok (.aload_n 0, 1) := by decide +kernel
theorem dX12_figure_45 : decode cX12_figure 45 = .ok (.getfield 96, 3) := by decide +kernel
theorem dX12_figure_48 : decode cX12_figure 48 = .ok (.aload_n 0, 1) := by decide +kernel
theorem dX12_figure_49 : decode cX12_figure 49 = .ok (.getfield 90, 3) := by decide +kernel
theorem dX12_figure_52 : decode cX12_figure 52 = .ok (.aload_n 0, 1) := by decide +kernel
theorem dX12_figure_53 : decode cX12_figure 53 = .ok (.getfield 96, 3) := by decide +kernel
theorem dX12_figure_56 : decode cX12_figure 56 = .ok (.bipush 10, 2) := by decide +kernel
theorem dX12_figure_58 : decode cX12_figure 58 = .ok (.iaload, 1) := by decide +kernel
theorem dX12_figure_59 : decode cX12_figure 59 = .ok (.iastore, 1) := by decide +kernel
theorem dX12_figure_60 : decode cX12_figure 60 = .ok (.iconst 0, 1) := by decide +kernel
theorem dX12_figure_61 : decode cX12_figure 61 = .ok (.istore_n 2, 1) := by decide +kernel
theorem dX12_figure_62 : decode cX12_figure 62 = .ok (.iload_n 2, 1) := by decide +kernel
theorem dX12_figure_63 : decode cX12_figure 63 = .ok (.aload_n 0, 1) := by decide +kernel
theorem dX12_figure_64 : decode cX12_figure 64 = .ok (.getfield 96, 3) := by decide +kernel
theorem dX12_figure_67 : decode cX12_figure 67 = .ok (.bipush 10, 2) := by decide +kernel
theorem dX12_figure_69 : decode cX12_figure 69 = .ok (.iaload, 1) := by decide +kernel
theorem dX12_figure_70 : decode cX12_figure 70 = .ok (.if_icmp .ge 34, 3) := by decide +kernel
theorem dX12_figure_73 : decode cX12_figure 73 = .ok (.aload_n 0, 1) := by decide +kernel
theorem dX12_figure_74 : decode cX12_figure 74 = .ok (.getfield 99, 3) := by decide +kernel
theorem dX12_figure_77 : decode cX12_figure 77 = .ok (.sipush 300, 3) := by decide +kernel
theorem dX12_figure_80 : decode cX12_figure 80 = .ok (.aload_n 0, 1) := by decide +kernel
theorem dX12_figure_81 : decode cX12_figure 81 = .ok (.getfield 90, 3) := by decide +kernel
theorem dX12_figure_84 : decode cX12_figure 84 = .ok (.imul, 1) := by decide +kernel
theorem dX12_figure_85 : decode cX12_figure 85 = .ok (.iload_n 2, 1) := by decide +kernel
theorem dX12_figure_86 : decode cX12_figure 86 = .ok (.iadd, 1) := by decide +kernel
theorem dX12_figure_87 : decode cX12_figure 87 = .ok (.aload_n 0, 1) := by decide +kernel
theorem dX12_figure_88 : decode cX12_figure 88 = .ok (.getfield 99, 3) := by decide +kernel
theorem dX12_figure_91 : decode cX12_figure 91 = .ok (.sipush 3000, 3) := by decide +kernel
theorem dX12_figure_94 : decode cX12_figure 94 = .ok (.iload_n 2, 1) := by decide +kernel
theorem dX12_figure_95 : decode cX12_figure 95 = .ok (.iadd, 1) := by decide +kernel
theorem dX12_figure_96 : decode cX12_figure 96 = .ok (.iaload, 1) := by decide +kernel
theorem dX12_figure_97 : decode cX12_figure 97 = .ok (.iastore, 1) := by decide +kernel
theorem dX12_figure_98 : decode cX12_figure 98 = .ok (.iinc 2 1, 3) := by decide +kernel
theorem dX12_figure_101 : decode cX12_figure 101 = .ok (.goto (-39), 3) := by decide +kernel
theorem dX12_figure_104 : decode cX12_figure 104 = .ok (.aload_n 0, 1) := by decide +kernel
theorem dX12_figure_105 : decode cX12_figure 105 = .ok (.dup, 1) := by decide +kernel
theorem dX12_figure_106 : decode cX12_figure 106 = .ok (.getfield 90, 3) := by decide +kernel
theorem dX12_figure_109 : decode cX12_figure 109 = .ok (.iconst 1, 1) := by decide +kernel
theorem dX12_figure_110 : decode cX12_figure 110 = .ok (.iadd, 1) := by decide +kernel
theorem dX12_figure_111 : decode cX12_figure 111 = .ok (.putfield 90, 3) := by decide +kernel
theorem dX12_figure_114 : decode cX12_figure 114 = .ok (.aload_n 0, 1) := by decide +kernel
theorem dX12_figure_115 : decode cX12_figure 115 = .ok (.getfield 90, 3) := by decide +kernel
theorem dX12_figure_118 : decode cX12_figure 118 = .ok (.iconst 1, 1) := by decide +kernel
theorem dX12_figure_119 : decode cX12_figure 119 = .ok (.isub, 1) := by decide +kernel
theorem dX12_figure_120 : decode cX12_figure 120 = .ok (.ireturn, 1) := by decide +kernel
theorem dX12_told_0 : decode cX12_told 0 = .ok (.aload_n 0, 1) := by decide +kernel
theorem dX12_told_1 : decode cX12_told 1 = .ok (.iload_n 1, 1) := by decide +kernel
theorem dX12_told_2 : decode cX12_told 2 = .ok (.invokevirtual 244, 3) := by decide +kernel
theorem dX12_told_5 : decode cX12_told 5 = .ok (.ifCond .ne 7, 3) := by decide +kernel
theorem dX12_told_8 : decode cX12_told 8 = .ok (.iconst (-1), 1) := by decide +kernel
theorem dX12_told_9 : decode cX12_told 9 = .ok (.goto 50, 3) := by decide +kernel
theorem dX12_told_12 : decode cX12_told 12 = .ok (.iload_n 2, 1) := by decide +kernel
theorem dX12_told_13 : decode cX12_told 13 = .ok (.iconst (-1), 1) := by decide +kernel
theorem dX12_told_14 : decode cX12_told 14 = .ok (.if_icmp .ne 12, 3) := by decide +kernel
theorem dX12_told_17 : decode cX12_told 17 = .ok (.aload_n 0, 1) := by decide +kernel
theorem dX12_told_18 : decode cX12_told 18 = .ok (.getfield 96, 3) := by decide +kernel
theorem dX12_told_21 : decode cX12_told 21 = .ok (.iload_n 1, 1) := by decide +kernel
theorem dX12_told_22 : decode cX12_told 22 = .ok (.iaload, 1) := by decide +kernel
theorem dX12_told_23 : decode cX12_told 23 = .ok (.goto 36, 3) := by decide +kernel
theorem dX12_told_26 : decode cX12_told 26 = .ok (.aload_n 0, 1) := by decide +kernel
theorem dX12_told_27 : decode cX12_told 27 = .ok (.iload_n 2, 1) := by decide +kernel
theorem dX12_told_28 : decode cX12_told 28 = .ok (.iconst 0, 1) := by decide +kernel
theorem dX12_told_29 : decode cX12_told 29 = .ok (.aload_n 0, 1) := by decide +kernel
theorem dX12_told_30 : decode cX12_told 30 = .ok (.getfield 96, 3) := by decide +kernel
theorem dX12_told_33 : decode cX12_told 33 = .ok (.iload_n 1, 1) := by decide +kernel
theorem dX12_told_34 : decode cX12_told 34 = .ok (.iaload, 1) := by decide +kernel
theorem dX12_told_35 : decode cX12_told 35 = .ok (.iconst 1, 1) := by decide +kernel
theorem dX12_told_36 : decode cX12_told 36 = .ok (.isub, 1) := by decide +kernel
theorem dX12_told_37 : decode cX12_told 37 = .ok (.invokevirtual 195, 3) := by decide +kernel
theorem dX12_told_40 : decode cX12_told 40 = .ok (.ifCond .eq 18, 3) := by decide +kernel
theorem dX12_told_43 : decode cX12_told 43 = .ok (.aload_n 0, 1) := by decide +kernel
theorem dX12_told_44 : decode cX12_told 44 = .ok (.getfield 99, 3) := by decide +kernel
theorem dX12_told_47 : decode cX12_told 47 = .ok (.sipush 300, 3) := by decide +kernel
theorem dX12_told_50 : decode cX12_told 50 = .ok (.iload_n 1, 1) := by decide +kernel
theorem dX12_told_51 : decode cX12_told 51 = .ok (.imul, 1) := by decide +kernel
theorem dX12_told_52 : decode cX12_told 52 = .ok (.iload_n 2, 1) := by decide +kernel
theorem dX12_told_53 : decode cX12_told 53 = .ok (.iadd, 1) := by decide +kernel
theorem dX12_told_54 : decode cX12_told 54 = .ok (.iaload, 1) := by decide +kernel
theorem dX12_told_55 : decode cX12_told 55 = .ok (.goto 4, 3) := by decide +kernel
theorem dX12_told_58 : decode cX12_told 58 = .ok (.iconst (-1), 1) := by decide +kernel
theorem dX12_told_59 : decode cX12_told 59 = .ok (.ireturn, 1) := by decide +kernel
theorem dX12_dance_0 : decode cX12_dance 0 = .ok (.aload_n 0, 1) := by decide +kernel
theorem dX12_dance_1 : decode cX12_dance 1 = .ok (.iload_n 1, 1) := by decide +kernel
theorem dX12_dance_2 : decode cX12_dance 2 = .ok (.invokevirtual 244, 3) := by decide +kernel
theorem dX12_dance_5 : decode cX12_dance 5 = .ok (.ifCond .ne 5, 3) := by decide +kernel
theorem dX12_dance_8 : decode cX12_dance 8 = .ok (.iconst (-1), 1) := by decide +kernel
theorem dX12_dance_9 : decode cX12_dance 9 = .ok (.ireturn, 1) := by decide +kernel
theorem dX12_dance_10 : decode cX12_dance 10 = .ok (.aload_n 0, 1) := by decide +kernel
theorem dX12_dance_11 : decode cX12_dance 11 = .ok (.getfield 44, 3) := by decide +kernel
theorem dX12_dance_14 : decode cX12_dance 14 = .ok (.ifCond .ne 6, 3) := by decide +kernel
theorem dX12_dance_17 : decode cX12_dance 17 = .ok (.bipush (-3), 2) := by decide +kernel
theorem dX12_dance_19 : decode cX12_dance 19 = .ok (.ireturn, 1) := by decide +kernel
theorem dX12_dance_20 : decode cX12_dance 20 = .ok (.iconst 0, 1) := by decide +kernel
theorem dX12_dance_21 : decode cX12_dance 21 = .ok (.istore_n 2, 1) := by decide +kernel
theorem dX12_dance_22 : decode cX12_dance 22 = .ok (.iconst 1, 1) := by decide +kernel
theorem dX12_dance_23 : decode cX12_dance 23 = .ok (.istore_n 3, 1) := by decide +kernel
theorem dX12_dance_24 : decode cX12_dance 24 = .ok (.iload_n 3, 1) := by decide +kernel
theorem dX12_dance_25 : decode cX12_dance 25 = .ok (.ifCond .eq 84, 3) := by decide +kernel
theorem dX12_dance_28 : decode cX12_dance 28 = .ok (.iload_n 2, 1) := by decide +kernel
theorem dX12_dance_29 : decode cX12_dance 29 = .ok (.aload_n 0, 1) := by decide +kernel
theorem dX12_dance_30 : decode cX12_dance 30 = .ok (.getfield 96, 3) := by decide +kernel
theorem dX12_dance_33 : decode cX12_dance 33 = .ok (.iload_n 1, 1) := by decide +kernel
theorem dX12_dance_34 : decode cX12_dance 34 = .ok (.iaload, 1) := by decide +kernel
theorem dX12_dance_35 : decode cX12_dance 35 = .ok (.if_icmp .ge 74, 3) := by decide +kernel
theorem dX12_dance_38 : decode cX12_dance 38 = .ok (.aload_n 0, 1) := by decide +kernel
theorem dX12_dance_39 : decode cX12_dance 39 = .ok (.getfield 99, 3) := by decide +kernel
theorem dX12_dance_42 : decode cX12_dance 42 = .ok (.sipush 300, 3) := by decide +kernel
theorem dX12_dance_45 : decode cX12_dance 45 = .ok (.iload_n 1, 1) := by decide +kernel
theorem dX12_dance_46 : decode cX12_dance 46 = .ok (.imul, 1) := by decide +kernel
theorem dX12_dance_47 : decode cX12_dance 47 = .ok (.iload_n 2, 1) := by decide +kernel
theorem dX12_dance_48 : decode cX12_dance 48 = .ok (.iadd, 1) := by decide +kernel
theorem dX12_dance_49 : decode cX12_dance 49 = .ok (.iaload, 1) := by decide +kernel
theorem dX12_dance_50 : decode cX12_dance 50 = .ok (.istore 4, 2) := by decide +kernel
theorem dX12_dance_52 : decode cX12_dance 52 = .ok (.iload 4, 2) := by decide +kernel
theorem dX12_dance_54 : decode cX12_dance 54 = .ok (.bipush 100, 2) := by decide +kernel
theorem dX12_dance_56 : decode cX12_dance 56 = .ok (.if_icmp .lt 15, 3) := by decide +kernel
theorem dX12_dance_59 : decode cX12_dance 59 = .ok (.aload_n 0, 1) := by decide +kernel
theorem dX12_dance_60 : decode cX12_dance 60 = .ok (.iload 4, 2) := by decide +kernel
theorem dX12_dance_62 : decode cX12_dance 62 = .ok (.bipush 100, 2) := by decide +kernel
theorem dX12_dance_64 : decode cX12_dance 64 = .ok (.isub, 1) := by decide +kernel
theorem dX12_dance_65 : decode cX12_dance 65 = .ok (.invokevirtual 258, 3) := by decide +kernel
theorem dX12_dance_68 : decode cX12_dance 68 = .ok (.goto 17, 3) := by decide +kernel
theorem dX12_dance_71 : decode cX12_dance 71 = .ok (.aload_n 0, 1) := by decide +kernel
theorem dX12_dance_72 : decode cX12_dance 72 = .ok (.iload 4, 2) := by decide +kernel
theorem dX12_dance_74 : decode cX12_dance 74 = .ok (.bipush 10, 2) := by decide +kernel
theorem dX12_dance_76 : decode cX12_dance 76 = .ok (.idiv, 1) := by decide +kernel
theorem dX12_dance_77 : decode cX12_dance 77 = .ok (.iload 4, 2) := by decide +kernel
theorem dX12_dance_79 : decode cX12_dance 79 = .ok (.bipush 10, 2) := by decide +kernel
theorem dX12_dance_81 : decode cX12_dance 81 = .ok (.irem, 1) := by decide +kernel
theorem dX12_dance_82 : decode cX12_dance 82 = .ok (.invokevirtual 261, 3) := by decide +kernel
theorem dX12_dance_85 : decode cX12_dance 85 = .ok (.ifCond .le 7, 3) := by decide +kernel
theorem dX12_dance_88 : decode cX12_dance 88 = .ok (.iconst 1, 1) := by decide +kernel
theorem dX12_dance_89 : decode cX12_dance 89 = .ok (.goto 4, 3) := by decide +kernel
theorem dX12_dance_92 : decode cX12_dance 92 = .ok (.iconst 0, 1) := by decide +kernel
theorem dX12_dance_93 : decode cX12_dance 93 = .ok (.istore_n 3, 1) := by decide +kernel
theorem dX12_dance_94 : decode cX12_dance 94 = .ok (.iload_n 2, 1) := by decide +kernel
theorem dX12_dance_95 : decode cX12_dance 95 = .ok (.iload_n 3, 1) := by decide +kernel
theorem dX12_dance_96 : decode cX12_dance 96 = .ok (.ifCond .eq 7, 3) := by decide +kernel
theorem dX12_dance_99 : decode cX12_dance 99 = .ok (.iconst 1, 1) := by decide +kernel
theorem dX12_dance_100 : decode cX12_dance 100 = .ok (.goto 4, 3) := by decide +kernel
theorem dX12_dance_103 : decode cX12_dance 103 = .ok (.iconst 0, 1) := by decide +kernel
theorem dX12_dance_104 : decode cX12_dance 104 = .ok (.iadd, 1) := by decide +kernel
theorem dX12_dance_105 : decode cX12_dance 105 = .ok (.istore_n 2, 1) := by decide +kernel
theorem dX12_dance_106 : decode cX12_dance 106 = .ok (.goto (-82), 3) := by decide +kernel
theorem dX12_dance_109 : decode cX12_dance 109 = .ok (.iload_n 2, 1) := by decide +kernel
theorem dX12_dance_110 : decode cX12_dance 110 = .ok (.ireturn, 1) := by decide +kernel
theorem dX12_stepOf_0 : decode cX12_stepOf 0 = .ok (.iload_n 1, 1) := by decide +kernel
theorem dX12_stepOf_1 : decode cX12_stepOf 1 = .ok (.ifCond .ge 12, 3) := by decide +kernel
theorem dX12_stepOf_4 : decode cX12_stepOf 4 = .ok (.aload_n 0, 1) := by decide +kernel
theorem dX12_stepOf_5 : decode cX12_stepOf 5 = .ok (.getfield 60, 3) := by decide +kernel
theorem dX12_stepOf_8 : decode cX12_stepOf 8 = .ok (.iload_n 2, 1) := by decide +kernel
theorem dX12_stepOf_9 : decode cX12_stepOf 9 = .ok (.iaload, 1) := by decide +kernel
theorem dX12_stepOf_10 : decode cX12_stepOf 10 = .ok (.goto 15, 3) := by decide +kernel
theorem dX12_stepOf_13 : decode cX12_stepOf 13 = .ok (.aload_n 0, 1) := by decide +kernel
theorem dX12_stepOf_14 : decode cX12_stepOf 14 = .ok (.getfield 99, 3) := by decide +kernel
theorem dX12_stepOf_17 : decode cX12_stepOf 17 = .ok (.sipush 300, 3) := by decide +kernel
theorem dX12_stepOf_20 : decode cX12_stepOf 20 = .ok (.iload_n 1, 1) := by decide +kernel
theorem dX12_stepOf_21 : decode cX12_stepOf 21 = .ok (.imul, 1) := by decide +kernel
theorem dX12_stepOf_22 : decode cX12_stepOf 22 = .ok (.iload_n 2, 1) := by decide +kernel
theorem dX12_stepOf_23 : decode cX12_stepOf 23 = .ok (.iadd, 1) := by decide +kernel
theorem dX12_stepOf_24 : decode cX12_stepOf 24 = .ok (.iaload, 1) := by decide +kernel
theorem dX12_stepOf_25 : decode cX12_stepOf 25 = .ok (.ireturn, 1) := by decide +kernel
theorem dX12_stepsOf_0 : decode cX12_stepsOf 0 = .ok (.iload_n 1, 1) := by decide +kernel
theorem dX12_stepsOf_1 : decode cX12_stepsOf 1 = .ok (.ifCond .ge 10, 3) := by decide +kernel
theorem dX12_stepsOf_4 : decode cX12_stepsOf 4 = .ok (.aload_n 0, 1) := by decide +kernel
theorem dX12_stepsOf_5 : decode cX12_stepsOf 5 = .ok (.getfield 54, 3) := by decide +kernel
theorem dX12_stepsOf_8 : decode cX12_stepsOf 8 = .ok (.goto 9, 3) := by decide +kernel
theorem dX12_stepsOf_11 : decode cX12_stepsOf 11 = .ok (.aload_n 0, 1) := by decide +kernel
theorem dX12_stepsOf_12 : decode cX12_stepsOf 12 = .ok (.getfield 96, 3) := by decide +kernel
theorem dX12_stepsOf_15 : decode cX12_stepsOf 15 = .ok (.iload_n 1, 1) := by decide +kernel
theorem dX12_stepsOf_16 : decode cX12_stepsOf 16 = .ok (.iaload, 1) := by decide +kernel
theorem dX12_stepsOf_17 : decode cX12_stepsOf 17 = .ok (.ireturn, 1) := by decide +kernel
theorem dX12_areFar_0 : decode cX12_areFar 0 = .ok (.aload_n 0, 1) := by decide +kernel
theorem dX12_areFar_1 : decode cX12_areFar 1 = .ok (.iload_n 1, 1) := by decide +kernel
theorem dX12_areFar_2 : decode cX12_areFar 2 = .ok (.iload_n 2, 1) := by decide +kernel
theorem dX12_areFar_3 : decode cX12_areFar 3 = .ok (.isub, 1) := by decide +kernel
theorem dX12_areFar_4 : decode cX12_areFar 4 = .ok (.invokevirtual 264, 3) := by decide +kernel
theorem dX12_areFar_7 : decode cX12_areFar 7 = .ok (.istore_n 3, 1) := by decide +kernel
theorem dX12_areFar_8 : decode cX12_areFar 8 = .ok (.iload_n 3, 1) := by decide +kernel
theorem dX12_areFar_9 : decode cX12_areFar 9 = .ok (.iconst 1, 1) := by decide +kernel
theorem dX12_areFar_10 : decode cX12_areFar 10 = .ok (.if_icmp .le 17, 3) := by decide +kernel
theorem dX12_areFar_13 : decode cX12_areFar 13 = .ok (.iload_n 3, 1) := by decide +kernel
theorem dX12_areFar_14 : decode cX12_areFar 14 = .ok (.aload_n 0, 1) := by decide +kernel
theorem dX12_areFar_15 : decode cX12_areFar 15 = .ok (.getfield 13, 3) := by decide +kernel
theorem dX12_areFar_18 : decode cX12_areFar 18 = .ok (.iconst 1, 1) := by decide +kernel
theorem dX12_areFar_19 : decode cX12_areFar 19 = .ok (.isub, 1) := by decide +kernel
theorem dX12_areFar_20 : decode cX12_areFar 20 = .ok (.if_icmp .ge 7, 3) := by decide +kernel
theorem dX12_areFar_23 : decode cX12_areFar 23 = .ok (.iconst 1, 1) := by decide +kernel
theorem dX12_areFar_24 : decode cX12_areFar 24 = .ok (.goto 4, 3) := by decide +kernel
theorem dX12_areFar_27 : decode cX12_areFar 27 = .ok (.iconst 0, 1) := by decide +kernel
theorem dX12_areFar_28 : decode cX12_areFar 28 = .ok (.ireturn, 1) := by decide +kernel
theorem dX12_findForm_0 : decode cX12_findForm 0 = .ok (.aload_n 0, 1) := by decide +kernel
theorem dX12_findForm_1 : decode cX12_findForm 1 = .ok (.iconst 0, 1) := by decide +kernel
theorem dX12_findForm_2 : decode cX12_findForm 2 = .ok (.putfield 126, 3) := by decide +kernel
theorem dX12_findForm_5 : decode cX12_findForm 5 = .ok (.aload_n 0, 1) := by decide +kernel
theorem dX12_findForm_6 : decode cX12_findForm 6 = .ok (.iconst 0, 1) := by decide +kernel
theorem dX12_findForm_7 : decode cX12_findForm 7 = .ok (.putfield 123, 3) := by decide +kernel
theorem dX12_findForm_10 : decode cX12_findForm 10 = .ok (.iconst 0, 1) := by decide +kernel
theorem dX12_findForm_11 : decode cX12_findForm 11 = .ok (.istore_n 2, 1) := by decide +kernel
theorem dX12_findForm_12 : decode cX12_findForm 12 = .ok (.iload_n 2, 1) := by decide +kernel
theorem dX12_findForm_13 : decode cX12_findForm 13 = .ok (.aload_n 0, 1) := by decide +kernel
theorem dX12_findForm_14 : decode cX12_findForm 14 = .ok (.iload_n 1, 1) := by decide +kernel
theorem dX12_findForm_15 : decode cX12_findForm 15 = .ok (.invokevirtual 267, 3) := by decide +kernel
theorem dX12_findForm_18 : decode cX12_findForm 18 = .ok (.if_icmp .ge 98, 3) := by decide +kernel
theorem dX12_findForm_21 : decode cX12_findForm 21 = .ok (.aload_n 0, 1) := by decide +kernel
theorem dX12_findForm_22 : decode cX12_findForm 22 = .ok (.iload_n 1, 1) := by decide +kernel
theorem dX12_findForm_23 : decode cX12_findForm 23 = .ok (.iload_n 2, 1) := by decide +kernel
theorem dX12_findForm_24 : decode cX12_findForm 24 = .ok (.invokevirtual 270, 3) := by decide +kernel
theorem dX12_findForm_27 : decode cX12_findForm 27 = .ok (.istore_n 3, 1) := by decide +kernel
theorem dX12_findForm_28 : decode cX12_findForm 28 = .ok (.iload_n 3, 1) := by decide +kernel
theorem dX12_findForm_29 : decode cX12_findForm 29 = .ok (.bipush 100, 2) := by decide +kernel
theorem dX12_findForm_31 : decode cX12_findForm 31 = .ok (.if_icmp .lt 26, 3) := by decide +kernel
theorem dX12_findForm_34 : decode cX12_findForm 34 = .ok (.aload_n 0, 1) := by decide +kernel
theorem dX12_findForm_35 : decode cX12_findForm 35 = .ok (.dup, 1) := by decide +kernel
theorem dX12_findForm_36 : decode cX12_findForm 36 = .ok (.getfield 126, 3) := by decide +kernel
theorem dX12_findForm_39 : decode cX12_findForm 39 = .ok (.iload_n 3, 1) := by decide +kernel
theorem dX12_findForm_40 : decode cX12_findForm 40 = .ok (.bipush 100, 2) := by decide +kernel
theorem dX12_findForm_42 : decode cX12_findForm 42 = .ok (.if_icmp .ne 7, 3) := by decide +kernel
theorem dX12_findForm_45 : decode cX12_findForm 45 = .ok (.iconst 1, 1) := by decide +kernel
theorem dX12_findForm_46 : decode cX12_findForm 46 = .ok (.goto 4, 3) := by decide +kernel
theorem dX12_findForm_49 : decode cX12_findForm 49 = .ok (.iconst (-1), 1) := by decide +kernel
theorem dX12_findForm_50 : decode cX12_findForm 50 = .ok (.iadd, 1) := by decide +kernel
theorem dX12_findForm_51 : decode cX12_findForm 51 = .ok (.putfield 126, 3) := by decide +kernel
theorem dX12_findForm_54 : decode cX12_findForm 54 = .ok (.goto 56, 3) := by decide +kernel
theorem dX12_findForm_57 : decode cX12_findForm 57 = .ok (.iload_n 3, 1) := by decide +kernel
theorem dX12_findForm_58 : decode cX12_findForm 58 = .ok (.bipush 10, 2) := by decide +kernel
theorem dX12_findForm_60 : decode cX12_findForm 60 = .ok (.idiv, 1) := by decide +kernel
theorem dX12_findForm_61 : decode cX12_findForm 61 = .ok (.aload_n 0, 1) := by decide +kernel
theorem dX12_findForm_62 : decode cX12_findForm 62 = .ok (.getfield 13, 3) := by decide +kernel
theorem dX12_findForm_65 : decode cX12_findForm 65 = .ok (.if_icmp .lt 5, 3) := by decide +kernel
theorem dX12_findForm_68 : decode cX12_findForm 68 = .ok (.iconst 0, 1) := by decide +kernel
theorem dX12_findForm_69 : decode cX12_findForm 69 = .ok (.ireturn, 1) := by decide +kernel
theorem dX12_findForm_70 : decode cX12_findForm 70 = .ok (.iload_n 3, 1) := by decide +kernel
theorem dX12_findForm_71 : decode cX12_findForm 71 = .ok (.bipush 10, 2) := by decide +kernel
theorem dX12_findForm_73 : decode cX12_findForm 73 = .ok (.idiv, 1) := by decide +kernel
theorem dX12_findForm_74 : decode cX12_findForm 74 = .ok (.aload_n 0, 1) := by decide +kernel
theorem dX12_findForm_75 : decode cX12_findForm 75 = .ok (.getfield 126, 3) := by decide +kernel
theorem dX12_findForm_78 : decode cX12_findForm 78 = .ok (.isub, 1) := by decide +kernel
theorem dX12_findForm_79 : decode cX12_findForm 79 = .ok (.aload_n 0, 1) := by decide +kernel
theorem dX12_findForm_80 : decode cX12_findForm 80 = .ok (.getfield 13, 3) := by decide +kernel
theorem dX12_findForm_83 : decode cX12_findForm 83 = .ok (.irem, 1) := by decide +kernel
theorem dX12_findForm_84 : decode cX12_findForm 84 = .ok (.aload_n 0, 1) := by decide +kernel
theorem dX12_findForm_85 : decode cX12_findForm 85 = .ok (.getfield 13, 3) := by decide +kernel
theorem dX12_findForm_88 : decode cX12_findForm 88 = .ok (.iadd, 1) := by decide +kernel
theorem dX12_findForm_89 : decode cX12_findForm 89 = .ok (.aload_n 0, 1) := by decide +kernel
theorem dX12_findForm_90 : decode cX12_findForm 90 = .ok (.getfield 13, 3) := by decide +kernel
theorem dX12_findForm_93 : decode cX12_findForm 93 = .ok (.irem, 1) := by decide +kernel
theorem dX12_findForm_94 : decode cX12_findForm 94 = .ok (.istore 4, 2) := by decide +kernel
theorem dX12_findForm_96 : decode cX12_findForm 96 = .ok (.aload_n 0, 1) := by decide +kernel
theorem dX12_findForm_97 : decode cX12_findForm 97 = .ok (.bipush 10, 2) := by decide +kernel
theorem dX12_findForm_99 : decode cX12_findForm 99 = .ok (.iload 4, 2) := by decide +kernel
theorem dX12_findForm_101 : decode cX12_findForm 101 = .ok (.imul, 1) := by decide +kernel
theorem dX12_findForm_102 : decode cX12_findForm 102 = .ok (.iload_n 3, 1) := by decide +kernel
theorem dX12_findForm_103 : decode cX12_findForm 103 = .ok (.bipush 10, 2) := by decide +kernel
theorem dX12_findForm_105 : decode cX12_findForm 105 = .ok (.irem, 1) := by decide +kernel
theorem dX12_findForm_106 : decode cX12_findForm 106 = .ok (.iadd, 1) := by decide +kernel
theorem dX12_findForm_107 : decode cX12_findForm 107 = .ok (.invokevirtual 273, 3) := by decide +kernel
theorem dX12_findForm_110 : decode cX12_findForm 110 = .ok (.iinc 2 1, 3) := by decide +kernel
theorem dX12_findForm_113 : decode cX12_findForm 113 = .ok (.goto (-101), 3) := by decide +kernel
theorem dX12_findForm_116 : decode cX12_findForm 116 = .ok (.iconst 0, 1) := by decide +kernel
theorem dX12_findForm_117 : decode cX12_findForm 117 = .ok (.istore_n 2, 1) := by decide +kernel
theorem dX12_findForm_118 : decode cX12_findForm 118 = .ok (.iload_n 2, 1) := by decide +kernel
theorem dX12_findForm_119 : decode cX12_findForm 119 = .ok (.aload_n 0, 1) := by decide +kernel
theorem dX12_findForm_120 : decode cX12_findForm 120 = .ok (.getfield 123, 3) := by decide +kernel
theorem dX12_findForm_123 : decode cX12_findForm 123 = .ok (.if_icmp .ge 14, 3) := by decide +kernel
theorem dX12_findForm_126 : decode cX12_findForm 126 = .ok (.aload_n 0, 1) := by decide +kernel
theorem dX12_findForm_127 : decode cX12_findForm 127 = .ok (.iload_n 2, 1) := by decide +kernel
theorem dX12_findForm_128 : decode cX12_findForm 128 = .ok (.invokevirtual 276, 3) := by decide +kernel
theorem dX12_findForm_131 : decode cX12_findForm 131 = .ok (.iinc 2 1, 3) := by decide +kernel
theorem dX12_findForm_134 : decode cX12_findForm 134 = .ok (.goto (-16), 3) := by decide +kernel
theorem dX12_findForm_137 : decode cX12_findForm 137 = .ok (.iconst 1, 1) := by decide +kernel
theorem dX12_findForm_138 : decode cX12_findForm 138 = .ok (.ireturn, 1) := by decide +kernel
theorem dX12_take_0 : decode cX12_take 0 = .ok (.aload_n 0, 1) := by decide +kernel
theorem dX12_take_1 : decode cX12_take 1 = .ok (.getfield 123, 3) := by decide +kernel
theorem dX12_take_4 : decode cX12_take 4 = .ok (.iconst 1, 1) := by decide +kernel
theorem dX12_take_5 : decode cX12_take 5 = .ok (.isub, 1) := by decide +kernel
theorem dX12_take_6 : decode cX12_take 6 = .ok (.istore_n 2, 1) := by decide +kernel
theorem dX12_take_7 : decode cX12_take 7 = .ok (.iload_n 2, 1) := by decide +kernel
theorem dX12_take_8 : decode cX12_take 8 = .ok (.ifCond .lt 29, 3) := by decide +kernel
theorem dX12_take_11 : decode cX12_take 11 = .ok (.aload_n 0, 1) := by decide +kernel
theorem dX12_take_12 : decode cX12_take 12 = .ok (.aload_n 0, 1) := by decide +kernel
theorem dX12_take_13 : decode cX12_take 13 = .ok (.getfield 117, 3) := by decide +kernel
theorem dX12_take_16 : decode cX12_take 16 = .ok (.iload_n 2, 1) := by decide +kernel
theorem dX12_take_17 : decode cX12_take 17 = .ok (.iaload, 1) := by decide +kernel
theorem dX12_take_18 : decode cX12_take 18 = .ok (.bipush 10, 2) := by decide +kernel
theorem dX12_take_20 : decode cX12_take 20 = .ok (.idiv, 1) := by decide +kernel
theorem dX12_take_21 : decode cX12_take 21 = .ok (.iload_n 1, 1) := by decide +kernel
theorem dX12_take_22 : decode cX12_take 22 = .ok (.bipush 10, 2) := by decide +kernel
theorem dX12_take_24 : decode cX12_take 24 = .ok (.idiv, 1) := by decide +kernel
theorem dX12_take_25 : decode cX12_take 25 = .ok (.invokevirtual 279, 3) := by decide +kernel
theorem dX12_take_28 : decode cX12_take 28 = .ok (.ifCond .eq 9, 3) := by decide +kernel
theorem dX12_take_31 : decode cX12_take 31 = .ok (.iinc 2 (-1), 3) := by decide +kernel
theorem dX12_take_34 : decode cX12_take 34 = .ok (.goto (-27), 3) := by decide +kernel
theorem dX12_take_37 : decode cX12_take 37 = .ok (.iload_n 2, 1) := by decide +kernel
theorem dX12_take_38 : decode cX12_take 38 = .ok (.ifCond .lt 56, 3) := by decide +kernel
theorem dX12_take_41 : decode cX12_take 41 = .ok (.aload_n 0, 1) := by decide +kernel
theorem dX12_take_42 : decode cX12_take 42 = .ok (.getfield 117, 3) := by decide +kernel
theorem dX12_take_45 : decode cX12_take 45 = .ok (.iload_n 2, 1) := by decide +kernel
theorem dX12_take_46 : decode cX12_take 46 = .ok (.iaload, 1) := by decide +kernel
theorem dX12_take_47 : decode cX12_take 47 = .ok (.iload_n 1, 1) := by decide +kernel
theorem dX12_take_48 : decode cX12_take 48 = .ok (.iconst 1, 1) := by decide +kernel
theorem dX12_take_49 : decode cX12_take 49 = .ok (.ixor, 1) := by decide +kernel
theorem dX12_take_50 : decode cX12_take 50 = .ok (.if_icmp .ne 44, 3) := by decide +kernel
theorem dX12_take_53 : decode cX12_take 53 = .ok (.aload_n 0, 1) := by decide +kernel
theorem dX12_take_54 : decode cX12_take 54 = .ok (.dup, 1) := by decide +kernel
theorem dX12_take_55 : decode cX12_take 55 = .ok (.getfield 123, 3) := by decide +kernel
theorem dX12_take_58 : decode cX12_take 58 = .ok (.iconst 1, 1) := by decide +kernel
theorem dX12_take_59 : decode cX12_take 59 = .ok (.isub, 1) := by decide +kernel
theorem dX12_take_60 : decode cX12_take 60 = .ok (.putfield 123, 3) := by decide +kernel
theorem dX12_take_63 : decode cX12_take 63 = .ok (.iload_n 2, 1) := by decide +kernel
theorem dX12_take_64 : decode cX12_take 64 = .ok (.istore_n 3, 1) := by decide +kernel
theorem dX12_take_65 : decode cX12_take 65 = .ok (.iload_n 3, 1) := by decide +kernel
theorem dX12_take_66 : decode cX12_take 66 = .ok (.aload_n 0, 1) := by decide +kernel
theorem dX12_take_67 : decode cX12_take 67 = .ok (.getfield 123, 3) := by decide +kernel
theorem dX12_take_70 : decode cX12_take 70 = .ok (.if_icmp .ge 23, 3) := by decide +kernel
theorem dX12_take_73 : decode cX12_take 73 = .ok (.aload_n 0, 1) := by decide +kernel
theorem dX12_take_74 : decode cX12_take 74 = .ok (.getfield 117, 3) := by decide +kernel
theorem dX12_take_77 : decode cX12_take 77 = .ok (.iload_n 3, 1) := by decide +kernel
theorem dX12_take_78 : decode cX12_take 78 = .ok (.aload_n 0, 1) := by decide +kernel
theorem dX12_take_79 : decode cX12_take 79 = .ok (.getfield 117, 3) := by decide +kernel
theorem dX12_take_82 : decode cX12_take 82 = .ok (.iload_n 3, 1) := by decide +kernel
theorem dX12_take_83 : decode cX12_take 83 = .ok (.iconst 1, 1) := by decide +kernel
theorem dX12_take_84 : decode cX12_take 84 = .ok (.iadd, 1) := by decide +kernel
theorem dX12_take_85 : decode cX12_take 85 = .ok (.iaload, 1) := by decide +kernel
theorem dX12_take_86 : decode cX12_take 86 = .ok (.iastore, 1) := by decide +kernel
theorem dX12_take_87 : decode cX12_take 87 = .ok (.iinc 3 1, 3) := by decide +kernel
theorem dX12_take_90 : decode cX12_take 90 = .ok (.goto (-25), 3) := by decide +kernel
theorem dX12_take_93 : decode cX12_take 93 = .ok (.return_, 1) := by decide +kernel
theorem dX12_take_94 : decode cX12_take 94 = .ok (.aload_n 0, 1) := by decide +kernel
theorem dX12_take_95 : decode cX12_take 95 = .ok (.getfield 117, 3) := by decide +kernel
theorem dX12_take_98 : decode cX12_take 98 = .ok (.aload_n 0, 1) := by decide +kernel
theorem dX12_take_99 : decode cX12_take 99 = .ok (.getfield 123, 3) := by decide +kernel
theorem dX12_take_102 : decode cX12_take 102 = .ok (.iload_n 1, 1) := by decide +kernel
theorem dX12_take_103 : decode cX12_take 103 = .ok (.iastore, 1) := by decide +kernel
theorem dX12_take_104 : decode cX12_take 104 = .ok (.aload_n 0, 1) := by decide +kernel
theorem dX12_take_105 : decode cX12_take 105 = .ok (.dup, 1) := by decide +kernel
theorem dX12_take_106 : decode cX12_take 106 = .ok (.getfield 123, 3) := by decide +kernel
theorem dX12_take_109 : decode cX12_take 109 = .ok (.iconst 1, 1) := by decide +kernel
theorem dX12_take_110 : decode cX12_take 110 = .ok (.iadd, 1) := by decide +kernel
theorem dX12_take_111 : decode cX12_take 111 = .ok (.putfield 123, 3) := by decide +kernel
theorem dX12_take_114 : decode cX12_take 114 = .ok (.return_, 1) := by decide +kernel
theorem dX12_bringLeast_0 : decode cX12_bringLeast 0 = .ok (.iload_n 1, 1) := by decide +kernel
theorem dX12_bringLeast_1 : decode cX12_bringLeast 1 = .ok (.istore_n 2, 1) := by decide +kernel
theorem dX12_bringLeast_2 : decode cX12_bringLeast 2 = .ok (.iload_n 1, 1) := by decide +kernel
theorem dX12_bringLeast_3 : decode cX12_bringLeast 3 = .ok (.iconst 1, 1) := by decide +kernel
theorem dX12_bringLeast_4 : decode cX12_bringLeast 4 = .ok (.iadd, 1) := by decide +kernel
theorem dX12_bringLeast_5 : decode cX12_bringLeast 5 = .ok (.istore_n 3, 1) := by decide +kernel
theorem dX12_bringLeast_6 : decode cX12_bringLeast 6 = .ok (.iload_n 3, 1) := by decide +kernel
theorem dX12_bringLeast_7 : decode cX12_bringLeast 7 = .ok (.aload_n 0, 1) := by decide +kernel
theorem dX12_bringLeast_8 : decode cX12_bringLeast 8 = .ok (.getfield 123, 3) := by decide +kernel
theorem dX12_bringLeast_11 : decode cX12_bringLeast 11 = .ok (.if_icmp .ge 91, 3) := by decide +kernel
theorem dX12_bringLeast_14 : decode cX12_bringLeast 14 = .ok (.aload_n 0, 1) := by decide +kernel
theorem dX12_bringLeast_15 : decode cX12_bringLeast 15 = .ok (.getfield 117, 3) := by decide +kernel
theorem dX12_bringLeast_18 : decode cX12_bringLeast 18 = .ok (.iload_n 3, 1) := by decide +kernel
theorem dX12_bringLeast_19 : decode cX12_bringLeast 19 = .ok (.iaload, 1) := by decide +kernel
theorem dX12_bringLeast_20 : decode cX12_bringLeast 20 = .ok (.aload_n 0, 1) := by decide +kernel
theorem dX12_bringLeast_21 : decode cX12_bringLeast 21 = .ok (.getfield 117, 3) := by decide +kernel
theorem dX12_bringLeast_24 : decode cX12_bringLeast 24 = .ok (.iload_n 2, 1) := by decide +kernel
theorem dX12_bringLeast_25 : decode cX12_bringLeast 25 = .ok (.iaload, 1) := by decide +kernel
theorem dX12_bringLeast_26 : decode cX12_bringLeast 26 = .ok (.if_icmp .ge 7, 3) := by decide +kernel
theorem dX12_bringLeast_29 : decode cX12_bringLeast 29 = .ok (.iconst 1, 1) := by decide +kernel
theorem dX12_bringLeast_30 : decode cX12_bringLeast 30 = .ok (.goto 4, 3) := by decide +kernel
theorem dX12_bringLeast_33 : decode cX12_bringLeast 33 = .ok (.iconst 0, 1) := by decide +kernel
theorem dX12_bringLeast_34 : decode cX12_bringLeast 34 = .ok (.istore 4, 2) := by decide +kernel
theorem dX12_bringLeast_36 : decode cX12_bringLeast 36 = .ok (.iload_n 1, 1) := by decide +kernel
theorem dX12_bringLeast_37 : decode cX12_bringLeast 37 = .ok (.istore 5, 2) := by decide +kernel
theorem dX12_bringLeast_39 : decode cX12_bringLeast 39 = .ok (.iload 5, 2) := by decide +kernel
theorem dX12_bringLeast_41 : decode cX12_bringLeast 41 = .ok (.iload_n 3, 1) := by decide +kernel
theorem dX12_bringLeast_42 : decode cX12_bringLeast 42 = .ok (.if_icmp .ge 47, 3) := by decide +kernel
theorem dX12_bringLeast_45 : decode cX12_bringLeast 45 = .ok (.iload 4, 2) := by decide +kernel
theorem dX12_bringLeast_47 : decode cX12_bringLeast 47 = .ok (.ifCond .eq 33, 3) := by decide +kernel
theorem dX12_bringLeast_50 : decode cX12_bringLeast 50 = .ok (.aload_n 0, 1) := by decide +kernel
theorem dX12_bringLeast_51 : decode cX12_bringLeast 51 = .ok (.aload_n 0, 1) := by decide +kernel
theorem dX12_bringLeast_52 : decode cX12_bringLeast 52 = .ok (.getfield 117, 3) := by decide +kernel
theorem dX12_bringLeast_55 : decode cX12_bringLeast 55 = .ok (.iload 5, 2) := by decide +kernel
theorem dX12_bringLeast_57 : decode cX12_bringLeast 57 = .ok (.iaload, 1) := by decide +kernel
theorem dX12_bringLeast_58 : decode cX12_bringLeast 58 = .ok (.bipush 10, 2) := by decide +kernel
theorem dX12_bringLeast_60 : decode cX12_bringLeast 60 = .ok (.idiv, 1) := by decide +kernel
theorem dX12_bringLeast_61 : decode cX12_bringLeast 61 = .ok (.aload_n 0, 1) := by decide +kernel
theorem dX12_bringLeast_62 : decode cX12_bringLeast 62 = .ok (.getfield 117, 3) := by decide +kernel
theorem dX12_bringLeast_65 : decode cX12_bringLeast 65 = .ok (.iload_n 3, 1) := by decide +kernel
theorem dX12_bringLeast_66 : decode cX12_bringLeast 66 = .ok (.iaload, 1) := by decide +kernel
theorem dX12_bringLeast_67 : decode cX12_bringLeast 67 = .ok (.bipush 10, 2) := by decide +kernel
theorem dX12_bringLeast_69 : decode cX12_bringLeast 69 = .ok (.idiv, 1) := by decide +kernel
theorem dX12_bringLeast_70 : decode cX12_bringLeast 70 = .ok (.invokevirtual 279, 3) := by decide +kernel
theorem dX12_bringLeast_73 : decode cX12_bringLeast 73 = .ok (.ifCond .eq 7, 3) := by decide +kernel
theorem dX12_bringLeast_76 : decode cX12_bringLeast 76 = .ok (.iconst 1, 1) := by decide +kernel
theorem dX12_bringLeast_77 : decode cX12_bringLeast 77 = .ok (.goto 4, 3) := by decide +kernel
theorem dX12_bringLeast_80 : decode cX12_bringLeast 80 = .ok (.iconst 0, 1) := by decide +kernel
theorem dX12_bringLeast_81 : decode cX12_bringLeast 81 = .ok (.istore 4, 2) := by decide +kernel
theorem dX12_bringLeast_83 : decode cX12_bringLeast 83 = .ok (.iinc 5 1, 3) := by decide +kernel
theorem dX12_bringLeast_86 : decode cX12_bringLeast 86 = .ok (.goto (-47), 3) := by decide +kernel
theorem dX12_bringLeast_89 : decode cX12_bringLeast 89 = .ok (.iload 4, 2) := by decide +kernel
theorem dX12_bringLeast_91 : decode cX12_bringLeast 91 = .ok (.ifCond .eq 5, 3) := by decide +kernel
theorem dX12_bringLeast_94 : decode cX12_bringLeast 94 = .ok (.iload_n 3, 1) := by decide +kernel
theorem dX12_bringLeast_95 : decode cX12_bringLeast 95 = .ok (.istore_n 2, 1) := by decide +kernel
theorem dX12_bringLeast_96 : decode cX12_bringLeast 96 = .ok (.iinc 3 1, 3) := by decide +kernel
theorem dX12_bringLeast_99 : decode cX12_bringLeast 99 = .ok (.goto (-93), 3) := by decide +kernel
theorem dX12_bringLeast_102 : decode cX12_bringLeast 102 = .ok (.aload_n 0, 1) := by decide +kernel
theorem dX12_bringLeast_103 : decode cX12_bringLeast 103 = .ok (.getfield 117, 3) := by decide +kernel
theorem dX12_bringLeast_106 : decode cX12_bringLeast 106 = .ok (.iload_n 2, 1) := by decide +kernel
theorem dX12_bringLeast_107 : decode cX12_bringLeast 107 = .ok (.iaload, 1) := by decide +kernel
theorem dX12_bringLeast_108 : decode cX12_bringLeast 108 = .ok (.istore_n 3, 1) := by decide +kernel
theorem dX12_bringLeast_109 : decode cX12_bringLeast 109 = .ok (.iload_n 2, 1) := by decide +kernel
theorem dX12_bringLeast_110 : decode cX12_bringLeast 110 = .ok (.istore 4, 2) := by decide +kernel
theorem dX12_bringLeast_112 : decode cX12_bringLeast 112 = .ok (.iload 4, 2) := by decide +kernel
theorem dX12_bringLeast_114 : decode cX12_bringLeast 114 = .ok (.iload_n 1, 1) := by decide +kernel
theorem dX12_bringLeast_115 : decode cX12_bringLeast 115 = .ok (.if_icmp .le 25, 3) := by decide +kernel
theorem dX12_bringLeast_118 : decode cX12_bringLeast 118 = .ok (.aload_n 0, 1) := by decide +kernel
theorem dX12_bringLeast_119 : decode cX12_bringLeast 119 = .ok (.getfield 117, 3) := by decide +kernel
theorem dX12_bringLeast_122 : decode cX12_bringLeast 122 = .ok (.iload 4, 2) := by decide +kernel
theorem dX12_bringLeast_124 : decode cX12_bringLeast 124 = .ok (.aload_n 0, 1) := by decide +kernel
theorem dX12_bringLeast_125 : decode cX12_bringLeast 125 = .ok (.getfield 117, 3) := by decide +kernel
theorem dX12_bringLeast_128 : decode cX12_bringLeast 128 = .ok (.iload 4, 2) := by decide +kernel
theorem dX12_bringLeast_130 : decode cX12_bringLeast 130 = .ok (.iconst 1, 1) := by decide +kernel
theorem dX12_bringLeast_131 : decode cX12_bringLeast 131 = .ok (.isub, 1) := by decide +kernel
theorem dX12_bringLeast_132 : decode cX12_bringLeast 132 = .ok (.iaload, 1) := by decide +kernel
theorem dX12_bringLeast_133 : decode cX12_bringLeast 133 = .ok (.iastore, 1) := by decide +kernel
theorem dX12_bringLeast_134 : decode cX12_bringLeast 134 = .ok (.iinc 4 (-1), 3) := by decide +kernel
theorem dX12_bringLeast_137 : decode cX12_bringLeast 137 = .ok (.goto (-25), 3) := by decide +kernel
theorem dX12_bringLeast_140 : decode cX12_bringLeast 140 = .ok (.aload_n 0, 1) := by decide +kernel
theorem dX12_bringLeast_141 : decode cX12_bringLeast 141 = .ok (.getfield 117, 3) := by decide +kernel
theorem dX12_bringLeast_144 : decode cX12_bringLeast 144 = .ok (.iload_n 1, 1) := by decide +kernel
theorem dX12_bringLeast_145 : decode cX12_bringLeast 145 = .ok (.iload_n 3, 1) := by decide +kernel
theorem dX12_bringLeast_146 : decode cX12_bringLeast 146 = .ok (.iastore, 1) := by decide +kernel
theorem dX12_bringLeast_147 : decode cX12_bringLeast 147 = .ok (.return_, 1) := by decide +kernel
theorem dX12_form_0 : decode cX12_form 0 = .ok (.iload_n 1, 1) := by decide +kernel
theorem dX12_form_1 : decode cX12_form 1 = .ok (.iconst (-1), 1) := by decide +kernel
theorem dX12_form_2 : decode cX12_form 2 = .ok (.if_icmp .eq 11, 3) := by decide +kernel
theorem dX12_form_5 : decode cX12_form 5 = .ok (.aload_n 0, 1) := by decide +kernel
theorem dX12_form_6 : decode cX12_form 6 = .ok (.iload_n 1, 1) := by decide +kernel
theorem dX12_form_7 : decode cX12_form 7 = .ok (.invokevirtual 244, 3) := by decide +kernel
theorem dX12_form_10 : decode cX12_form 10 = .ok (.ifCond .eq 9, 3) := by decide +kernel
theorem dX12_form_13 : decode cX12_form 13 = .ok (.iload_n 2, 1) := by decide +kernel
theorem dX12_form_14 : decode cX12_form 14 = .ok (.bipush (-2), 2) := by decide +kernel
theorem dX12_form_16 : decode cX12_form 16 = .ok (.if_icmp .ge 6, 3) := by decide +kernel
theorem dX12_form_19 : decode cX12_form 19 = .ok (.bipush (-99), 2) := by decide +kernel
theorem dX12_form_21 : decode cX12_form 21 = .ok (.ireturn, 1) := by decide +kernel
theorem dX12_form_22 : decode cX12_form 22 = .ok (.aload_n 0, 1) := by decide +kernel
theorem dX12_form_23 : decode cX12_form 23 = .ok (.getfield 13, 3) := by decide +kernel
theorem dX12_form_26 : decode cX12_form 26 = .ok (.ifCond .ne 6, 3) := by decide +kernel
theorem dX12_form_29 : decode cX12_form 29 = .ok (.bipush (-98), 2) := by decide +kernel
theorem dX12_form_31 : decode cX12_form 31 = .ok (.ireturn, 1) := by decide +kernel
theorem dX12_form_32 : decode cX12_form 32 = .ok (.aload_n 0, 1) := by decide +kernel
theorem dX12_form_33 : decode cX12_form 33 = .ok (.iload_n 1, 1) := by decide +kernel
theorem dX12_form_34 : decode cX12_form 34 = .ok (.invokevirtual 282, 3) := by decide +kernel
theorem dX12_form_37 : decode cX12_form 37 = .ok (.ifCond .ne 6, 3) := by decide +kernel
theorem dX12_form_40 : decode cX12_form 40 = .ok (.bipush (-97), 2) := by decide +kernel
theorem dX12_form_42 : decode cX12_form 42 = .ok (.ireturn, 1) := by decide +kernel
theorem dX12_form_43 : decode cX12_form 43 = .ok (.iload_n 2, 1) := by decide +kernel
theorem dX12_form_44 : decode cX12_form 44 = .ok (.bipush (-2), 2) := by decide +kernel
theorem dX12_form_46 : decode cX12_form 46 = .ok (.if_icmp .ne 10, 3) := by decide +kernel
theorem dX12_form_49 : decode cX12_form 49 = .ok (.aload_n 0, 1) := by decide +kernel
theorem dX12_form_50 : decode cX12_form 50 = .ok (.getfield 126, 3) := by decide +kernel
theorem dX12_form_53 : decode cX12_form 53 = .ok (.goto 34, 3) := by decide +kernel
theorem dX12_form_56 : decode cX12_form 56 = .ok (.iload_n 2, 1) := by decide +kernel
theorem dX12_form_57 : decode cX12_form 57 = .ok (.iconst (-1), 1) := by decide +kernel
theorem dX12_form_58 : decode cX12_form 58 = .ok (.if_icmp .ne 10, 3) := by decide +kernel
theorem dX12_form_61 : decode cX12_form 61 = .ok (.aload_n 0, 1) := by decide +kernel
theorem dX12_form_62 : decode cX12_form 62 = .ok (.getfield 123, 3) := by decide +kernel
theorem dX12_form_65 : decode cX12_form 65 = .ok (.goto 22, 3) := by decide +kernel
theorem dX12_form_68 : decode cX12_form 68 = .ok (.iload_n 2, 1) := by decide +kernel
theorem dX12_form_69 : decode cX12_form 69 = .ok (.aload_n 0, 1) := by decide +kernel
theorem dX12_form_70 : decode cX12_form 70 = .ok (.getfield 123, 3) := by decide +kernel
theorem dX12_form_73 : decode cX12_form 73 = .ok (.if_icmp .ge 12, 3) := by decide +kernel
theorem dX12_form_76 : decode cX12_form 76 = .ok (.aload_n 0, 1) := by decide +kernel
theorem dX12_form_77 : decode cX12_form 77 = .ok (.getfield 117, 3) := by decide +kernel
theorem dX12_form_80 : decode cX12_form 80 = .ok (.iload_n 2, 1) := by decide +kernel
theorem dX12_form_81 : decode cX12_form 81 = .ok (.iaload, 1) := by decide +kernel
theorem dX12_form_82 : decode cX12_form 82 = .ok (.goto 5, 3) := by decide +kernel
theorem dX12_form_85 : decode cX12_form 85 = .ok (.bipush (-99), 2) := by decide +kernel
theorem dX12_form_87 : decode cX12_form 87 = .ok (.ireturn, 1) := by decide +kernel
theorem dX12_akin_0 : decode cX12_akin 0 = .ok (.iload_n 1, 1) := by decide +kernel
theorem dX12_akin_1 : decode cX12_akin 1 = .ok (.iconst (-1), 1) := by decide +kernel
theorem dX12_akin_2 : decode cX12_akin 2 = .ok (.if_icmp .eq 11, 3) := by decide +kernel
theorem dX12_akin_5 : decode cX12_akin 5 = .ok (.aload_n 0, 1) := by decide +kernel
theorem dX12_akin_6 : decode cX12_akin 6 = .ok (.iload_n 1, 1) := by decide +kernel
theorem dX12_akin_7 : decode cX12_akin 7 = .ok (.invokevirtual 244, 3) := by decide +kernel
theorem dX12_akin_10 : decode cX12_akin 10 = .ok (.ifCond .eq 16, 3) := by decide +kernel
theorem dX12_akin_13 : decode cX12_akin 13 = .ok (.iload_n 2, 1) := by decide +kernel
theorem dX12_akin_14 : decode cX12_akin 14 = .ok (.iconst (-1), 1) := by decide +kernel
theorem dX12_akin_15 : decode cX12_akin 15 = .ok (.if_icmp .eq 13, 3) := by decide +kernel
theorem dX12_akin_18 : decode cX12_akin 18 = .ok (.aload_n 0, 1) := by decide +kernel
theorem dX12_akin_19 : decode cX12_akin 19 = .ok (.iload_n 2, 1) := by decide +kernel
theorem dX12_akin_20 : decode cX12_akin 20 = .ok (.invokevirtual 244, 3) := by decide +kernel
theorem dX12_akin_23 : decode cX12_akin 23 = .ok (.ifCond .ne 5, 3) := by decide +kernel
theorem dX12_akin_26 : decode cX12_akin 26 = .ok (.iconst (-1), 1) := by decide +kernel
theorem dX12_akin_27 : decode cX12_akin 27 = .ok (.ireturn, 1) := by decide +kernel
theorem dX12_akin_28 : decode cX12_akin 28 = .ok (.aload_n 0, 1) := by decide +kernel
theorem dX12_akin_29 : decode cX12_akin 29 = .ok (.getfield 13, 3) := by decide +kernel
theorem dX12_akin_32 : decode cX12_akin 32 = .ok (.ifCond .eq 11, 3) := by decide +kernel
theorem dX12_akin_35 : decode cX12_akin 35 = .ok (.aload_n 0, 1) := by decide +kernel
theorem dX12_akin_36 : decode cX12_akin 36 = .ok (.iload_n 1, 1) := by decide +kernel
theorem dX12_akin_37 : decode cX12_akin 37 = .ok (.invokevirtual 282, 3) := by decide +kernel
theorem dX12_akin_40 : decode cX12_akin 40 = .ok (.ifCond .ne 6, 3) := by decide +kernel
theorem dX12_akin_43 : decode cX12_akin 43 = .ok (.bipush (-3), 2) := by decide +kernel
theorem dX12_akin_45 : decode cX12_akin 45 = .ok (.ireturn, 1) := by decide +kernel
theorem dX12_akin_46 : decode cX12_akin 46 = .ok (.aload_n 0, 1) := by decide +kernel
theorem dX12_akin_47 : decode cX12_akin 47 = .ok (.getfield 126, 3) := by decide +kernel
theorem dX12_akin_50 : decode cX12_akin 50 = .ok (.istore_n 3, 1) := by decide +kernel
theorem dX12_akin_51 : decode cX12_akin 51 = .ok (.aload_n 0, 1) := by decide +kernel
theorem dX12_akin_52 : decode cX12_akin 52 = .ok (.getfield 123, 3) := by decide +kernel
theorem dX12_akin_55 : decode cX12_akin 55 = .ok (.istore 4, 2) := by decide +kernel
theorem dX12_akin_57 : decode cX12_akin 57 = .ok (.iconst 0, 1) := by decide +kernel
theorem dX12_akin_58 : decode cX12_akin 58 = .ok (.istore 5, 2) := by decide +kernel
theorem dX12_akin_60 : decode cX12_akin 60 = .ok (.iload 5, 2) := by decide +kernel
theorem dX12_akin_62 : decode cX12_akin 62 = .ok (.iload 4, 2) := by decide +kernel
theorem dX12_akin_64 : decode cX12_akin 64 = .ok (.if_icmp .ge 23, 3) := by decide +kernel
theorem dX12_akin_67 : decode cX12_akin 67 = .ok (.aload_n 0, 1) := by decide +kernel
theorem dX12_akin_68 : decode cX12_akin 68 = .ok (.getfield 120, 3) := by decide +kernel
theorem dX12_akin_71 : decode cX12_akin 71 = .ok (.iload 5, 2) := by decide +kernel
theorem dX12_akin_73 : decode cX12_akin 73 = .ok (.aload_n 0, 1) := by decide +kernel
theorem dX12_akin_74 : decode cX12_akin 74 = .ok (.getfield 117, 3) := by decide +kernel
theorem dX12_akin_77 : decode cX12_akin 77 = .ok (.iload 5, 2) := by decide +kernel
theorem dX12_akin_79 : decode cX12_akin 79 = .ok (.iaload, 1) := by decide +kernel
theorem dX12_akin_80 : decode cX12_akin 80 = .ok (.iastore, 1) := by decide +kernel
theorem dX12_akin_81 : decode cX12_akin 81 = .ok (.iinc 5 1, 3) := by decide +kernel
theorem dX12_akin_84 : decode cX12_akin 84 = .ok (.goto (-24), 3) := by decide +kernel
theorem dX12_akin_87 : decode cX12_akin 87 = .ok (.aload_n 0, 1) := by decide +kernel
theorem dX12_akin_88 : decode cX12_akin 88 = .ok (.iload_n 2, 1) := by decide +kernel
theorem dX12_akin_89 : decode cX12_akin 89 = .ok (.invokevirtual 282, 3) := by decide +kernel
theorem dX12_akin_92 : decode cX12_akin 92 = .ok (.ifCond .ne 6, 3) := by decide +kernel
theorem dX12_akin_95 : decode cX12_akin 95 = .ok (.bipush (-3), 2) := by decide +kernel
theorem dX12_akin_97 : decode cX12_akin 97 = .ok (.ireturn, 1) := by decide +kernel
theorem dX12_akin_98 : decode cX12_akin 98 = .ok (.iload_n 3, 1) := by decide +kernel
theorem dX12_akin_99 : decode cX12_akin 99 = .ok (.aload_n 0, 1) := by decide +kernel
theorem dX12_akin_100 : decode cX12_akin 100 = .ok (.getfield 126, 3) := by decide +kernel
theorem dX12_akin_103 : decode cX12_akin 103 = .ok (.if_icmp .ne 16, 3) := by decide +kernel
theorem dX12_akin_106 : decode cX12_akin 106 = .ok (.iload 4, 2) := by decide +kernel
theorem dX12_akin_108 : decode cX12_akin 108 = .ok (.aload_n 0, 1) := by decide +kernel
theorem dX12_akin_109 : decode cX12_akin 109 = .ok (.getfield 123, 3) := by decide +kernel
theorem dX12_akin_112 : decode cX12_akin 112 = .ok (.if_icmp .ne 7, 3) := by decide +kernel
theorem dX12_akin_115 : decode cX12_akin 115 = .ok (.iconst 1, 1) := by decide +kernel
theorem dX12_akin_116 : decode cX12_akin 116 = .ok (.goto 4, 3) := by decide +kernel
theorem dX12_akin_119 : decode cX12_akin 119 = .ok (.iconst 0, 1) := by decide +kernel
theorem dX12_akin_120 : decode cX12_akin 120 = .ok (.istore 5, 2) := by decide +kernel
theorem dX12_akin_122 : decode cX12_akin 122 = .ok (.iconst 0, 1) := by decide +kernel
theorem dX12_akin_123 : decode cX12_akin 123 = .ok (.istore 6, 2) := by decide +kernel
theorem dX12_akin_125 : decode cX12_akin 125 = .ok (.iload 6, 2) := by decide +kernel
theorem dX12_akin_127 : decode cX12_akin 127 = .ok (.iload 4, 2) := by decide +kernel
theorem dX12_akin_129 : decode cX12_akin 129 = .ok (.if_icmp .ge 38, 3) := by decide +kernel
theorem dX12_akin_132 : decode cX12_akin 132 = .ok (.iload 5, 2) := by decide +kernel
theorem dX12_akin_134 : decode cX12_akin 134 = .ok (.ifCond .eq 33, 3) := by decide +kernel
theorem dX12_akin_137 : decode cX12_akin 137 = .ok (.aload_n 0, 1) := by decide +kernel
theorem dX12_akin_138 : decode cX12_akin 138 = .ok (.getfield 117, 3) := by decide +kernel
theorem dX12_akin_141 : decode cX12_akin 141 = .ok (.iload 6, 2) := by decide +kernel
theorem dX12_akin_143 : decode cX12_akin 143 = .ok (.iaload, 1) := by decide +kernel
theorem dX12_akin_144 : decode cX12_akin 144 = .ok (.aload_n 0, 1) := by decide +kernel
theorem dX12_akin_145 : decode cX12_akin 145 = .ok (.getfield 120, 3) := by decide +kernel
theorem dX12_akin_148 : decode cX12_akin 148 = .ok (.iload 6, 2) := by decide +kernel
theorem dX12_akin_150 : decode cX12_akin 150 = .ok (.iaload, 1) := by decide +kernel
theorem dX12_akin_151 : decode cX12_akin 151 = .ok (.if_icmp .ne 7, 3) := by decide +kernel
theorem dX12_akin_154 : decode cX12_akin 154 = .ok (.iconst 1, 1) := by decide +kernel
theorem dX12_akin_155 : decode cX12_akin 155 = .ok (.goto 4, 3) := by decide +kernel
theorem dX12_akin_158 : decode cX12_akin 158 = .ok (.iconst 0, 1) := by decide +kernel
theorem dX12_akin_159 : decode cX12_akin 159 = .ok (.istore 5, 2) := by decide +kernel
theorem dX12_akin_161 : decode cX12_akin 161 = .ok (.iinc 6 1, 3) := by decide +kernel
theorem dX12_akin_164 : decode cX12_akin 164 = .ok (.goto (-39), 3) := by decide +kernel
theorem dX12_akin_167 : decode cX12_akin 167 = .ok (.iload 5, 2) := by decide +kernel
theorem dX12_akin_169 : decode cX12_akin 169 = .ok (.ifCond .eq 7, 3) := by decide +kernel
theorem dX12_akin_172 : decode cX12_akin 172 = .ok (.iconst 1, 1) := by decide +kernel
theorem dX12_akin_173 : decode cX12_akin 173 = .ok (.goto 4, 3) := by decide +kernel
theorem dX12_akin_176 : decode cX12_akin 176 = .ok (.iconst 0, 1) := by decide +kernel
theorem dX12_akin_177 : decode cX12_akin 177 = .ok (.ireturn, 1) := by decide +kernel
theorem dX12_tryBegin_0 : decode cX12_tryBegin 0 = .ok (.aload_n 0, 1) := by decide +kernel
theorem dX12_tryBegin_1 : decode cX12_tryBegin 1 = .ok (.iconst 0, 1) := by decide +kernel
theorem dX12_tryBegin_2 : decode cX12_tryBegin 2 = .ok (.putfield 138, 3) := by decide +kernel
theorem dX12_tryBegin_5 : decode cX12_tryBegin 5 = .ok (.aload_n 0, 1) := by decide +kernel
theorem dX12_tryBegin_6 : decode cX12_tryBegin 6 = .ok (.iconst 0, 1) := by decide +kernel
theorem dX12_tryBegin_7 : decode cX12_tryBegin 7 = .ok (.putfield 141, 3) := by decide +kernel
theorem dX12_tryBegin_10 : decode cX12_tryBegin 10 = .ok (.iconst 0, 1) := by decide +kernel
theorem dX12_tryBegin_11 : decode cX12_tryBegin 11 = .ok (.istore_n 1, 1) := by decide +kernel
theorem dX12_tryBegin_12 : decode cX12_tryBegin 12 = .ok (.iload_n 1, 1) := by decide +kernel
theorem dX12_tryBegin_13 : decode cX12_tryBegin 13 = .ok (.aload_n 0, 1) := by decide +kernel
theorem dX12_tryBegin_14 : decode cX12_tryBegin 14 = .ok (.getfield 13, 3) := by decide +kernel
theorem dX12_tryBegin_17 : decode cX12_tryBegin 17 = .ok (.if_icmp .ge 35, 3) := by decide +kernel
theorem dX12_tryBegin_20 : decode cX12_tryBegin 20 = .ok (.aload_n 0, 1) := by decide +kernel
theorem dX12_tryBegin_21 : decode cX12_tryBegin 21 = .ok (.getfield 129, 3) := by decide +kernel
theorem dX12_tryBegin_24 : decode cX12_tryBegin 24 = .ok (.iload_n 1, 1) := by decide +kernel
theorem dX12_tryBegin_25 : decode cX12_tryBegin 25 = .ok (.iload_n 1, 1) := by decide +kernel
theorem dX12_tryBegin_26 : decode cX12_tryBegin 26 = .ok (.iastore, 1) := by decide +kernel
theorem dX12_tryBegin_27 : decode cX12_tryBegin 27 = .ok (.aload_n 0, 1) := by decide +kernel
theorem dX12_tryBegin_28 : decode cX12_tryBegin 28 = .ok (.getfield 132, 3) := by decide +kernel
theorem dX12_tryBegin_31 : decode cX12_tryBegin 31 = .ok (.iload_n 1, 1) := by decide +kernel
theorem dX12_tryBegin_32 : decode cX12_tryBegin 32 = .ok (.aload_n 0, 1) := by decide +kernel
theorem dX12_tryBegin_33 : decode cX12_tryBegin 33 = .ok (.getfield 38, 3) := by decide +kernel
theorem dX12_tryBegin_36 : decode cX12_tryBegin 36 = .ok (.iload_n 1, 1) := by decide +kernel
theorem dX12_tryBegin_37 : decode cX12_tryBegin 37 = .ok (.iaload, 1) := by decide +kernel
theorem dX12_tryBegin_38 : decode cX12_tryBegin 38 = .ok (.iastore, 1) := by decide +kernel
theorem dX12_tryBegin_39 : decode cX12_tryBegin 39 = .ok (.aload_n 0, 1) := by decide +kernel
theorem dX12_tryBegin_40 : decode cX12_tryBegin 40 = .ok (.getfield 135, 3) := by decide +kernel
theorem dX12_tryBegin_43 : decode cX12_tryBegin 43 = .ok (.iload_n 1, 1) := by decide +kernel
theorem dX12_tryBegin_44 : decode cX12_tryBegin 44 = .ok (.iconst 0, 1) := by decide +kernel
theorem dX12_tryBegin_45 : decode cX12_tryBegin 45 = .ok (.iastore, 1) := by decide +kernel
theorem dX12_tryBegin_46 : decode cX12_tryBegin 46 = .ok (.iinc 1 1, 3) := by decide +kernel
theorem dX12_tryBegin_49 : decode cX12_tryBegin 49 = .ok (.goto (-37), 3) := by decide +kernel
theorem dX12_tryBegin_52 : decode cX12_tryBegin 52 = .ok (.return_, 1) := by decide +kernel
theorem dX12_tryPass_0 : decode cX12_tryPass 0 = .ok (.iload_n 1, 1) := by decide +kernel
theorem dX12_tryPass_1 : decode cX12_tryPass 1 = .ok (.aload_n 0, 1) := by decide +kernel
theorem dX12_tryPass_2 : decode cX12_tryPass 2 = .ok (.getfield 13, 3) := by decide +kernel
theorem dX12_tryPass_5 : decode cX12_tryPass 5 = .ok (.if_icmp .lt 5, 3) := by decide +kernel
theorem dX12_tryPass_8 : decode cX12_tryPass 8 = .ok (.iconst 0, 1) := by decide +kernel
theorem dX12_tryPass_9 : decode cX12_tryPass 9 = .ok (.ireturn, 1) := by decide +kernel
theorem dX12_tryPass_10 : decode cX12_tryPass 10 = .ok (.aload_n 0, 1) := by decide +kernel
theorem dX12_tryPass_11 : decode cX12_tryPass 11 = .ok (.iload_n 1, 1) := by decide +kernel
theorem dX12_tryPass_12 : decode cX12_tryPass 12 = .ok (.invokevirtual 207, 3) := by decide +kernel
theorem dX12_tryPass_15 : decode cX12_tryPass 15 = .ok (.istore_n 3, 1) := by decide +kernel
theorem dX12_tryPass_16 : decode cX12_tryPass 16 = .ok (.iload_n 2, 1) := by decide +kernel
theorem dX12_tryPass_17 : decode cX12_tryPass 17 = .ok (.ifCond .ne 12, 3) := by decide +kernel
theorem dX12_tryPass_20 : decode cX12_tryPass 20 = .ok (.aload_n 0, 1) := by decide +kernel
theorem dX12_tryPass_21 : decode cX12_tryPass 21 = .ok (.getfield 129, 3) := by decide +kernel
theorem dX12_tryPass_24 : decode cX12_tryPass 24 = .ok (.iload_n 1, 1) := by decide +kernel
theorem dX12_tryPass_25 : decode cX12_tryPass 25 = .ok (.iaload, 1) := by decide +kernel
theorem dX12_tryPass_26 : decode cX12_tryPass 26 = .ok (.goto 9, 3) := by decide +kernel
theorem dX12_tryPass_29 : decode cX12_tryPass 29 = .ok (.aload_n 0, 1) := by decide +kernel
theorem dX12_tryPass_30 : decode cX12_tryPass 30 = .ok (.getfield 129, 3) := by decide +kernel
theorem dX12_tryPass_33 : decode cX12_tryPass 33 = .ok (.iload_n 3, 1) := by decide +kernel
theorem dX12_tryPass_34 : decode cX12_tryPass 34 = .ok (.iaload, 1) := by decide +kernel
theorem dX12_tryPass_35 : decode cX12_tryPass 35 = .ok (.istore 4, 2) := by decide +kernel
theorem dX12_tryPass_37 : decode cX12_tryPass 37 = .ok (.iload_n 2, 1) := by decide +kernel
theorem dX12_tryPass_38 : decode cX12_tryPass 38 = .ok (.ifCond .ne 12, 3) := by decide +kernel
theorem dX12_tryPass_41 : decode cX12_tryPass 41 = .ok (.aload_n 0, 1) := by decide +kernel
theorem dX12_tryPass_42 : decode cX12_tryPass 42 = .ok (.getfield 129, 3) := by decide +kernel
theorem dX12_tryPass_45 : decode cX12_tryPass 45 = .ok (.iload_n 3, 1) := by decide +kernel
theorem dX12_tryPass_46 : decode cX12_tryPass 46 = .ok (.iaload, 1) := by decide +kernel
theorem dX12_tryPass_47 : decode cX12_tryPass 47 = .ok (.goto 9, 3) := by decide +kernel
theorem dX12_tryPass_50 : decode cX12_tryPass 50 = .ok (.aload_n 0, 1) := by decide +kernel
theorem dX12_tryPass_51 : decode cX12_tryPass 51 = .ok (.getfield 129, 3) := by decide +kernel
theorem dX12_tryPass_54 : decode cX12_tryPass 54 = .ok (.iload_n 1, 1) := by decide +kernel
theorem dX12_tryPass_55 : decode cX12_tryPass 55 = .ok (.iaload, 1) := by decide +kernel
theorem dX12_tryPass_56 : decode cX12_tryPass 56 = .ok (.istore 5, 2) := by decide +kernel
theorem dX12_tryPass_58 : decode cX12_tryPass 58 = .ok (.aload_n 0, 1) := by decide +kernel
theorem dX12_tryPass_59 : decode cX12_tryPass 59 = .ok (.getfield 132, 3) := by decide +kernel
theorem dX12_tryPass_62 : decode cX12_tryPass 62 = .ok (.iload 4, 2) := by decide +kernel
theorem dX12_tryPass_64 : decode cX12_tryPass 64 = .ok (.iaload, 1) := by decide +kernel
theorem dX12_tryPass_65 : decode cX12_tryPass 65 = .ok (.iconst 1, 1) := by decide +kernel
theorem dX12_tryPass_66 : decode cX12_tryPass 66 = .ok (.if_icmp .lt 14, 3) := by decide +kernel
theorem dX12_tryPass_69 : decode cX12_tryPass 69 = .ok (.aload_n 0, 1) := by decide +kernel
theorem dX12_tryPass_70 : decode cX12_tryPass 70 = .ok (.getfield 132, 3) := by decide +kernel
theorem dX12_tryPass_73 : decode cX12_tryPass 73 = .ok (.iload 5, 2) := by decide +kernel
theorem dX12_tryPass_75 : decode cX12_tryPass 75 = .ok (.iaload, 1) := by decide +kernel
theorem dX12_tryPass_76 : decode cX12_tryPass 76 = .ok (.iconst 2, 1) := by decide +kernel
theorem dX12_tryPass_77 : decode cX12_tryPass 77 = .ok (.if_icmp .ge 5, 3) := by decide +kernel
theorem dX12_tryPass_80 : decode cX12_tryPass 80 = .ok (.iconst 0, 1) := by decide +kernel
theorem dX12_tryPass_81 : decode cX12_tryPass 81 = .ok (.ireturn, 1) := by decide +kernel
theorem dX12_tryPass_82 : decode cX12_tryPass 82 = .ok (.aload_n 0, 1) := by decide +kernel
theorem dX12_tryPass_83 : decode cX12_tryPass 83 = .ok (.getfield 132, 3) := by decide +kernel
theorem dX12_tryPass_86 : decode cX12_tryPass 86 = .ok (.iload 4, 2) := by decide +kernel
theorem dX12_tryPass_88 : decode cX12_tryPass 88 = .ok (.dup2, 1) := by decide +kernel
theorem dX12_tryPass_89 : decode cX12_tryPass 89 = .ok (.iaload, 1) := by decide +kernel
theorem dX12_tryPass_90 : decode cX12_tryPass 90 = .ok (.iconst 1, 1) := by decide +kernel
theorem dX12_tryPass_91 : decode cX12_tryPass 91 = .ok (.isub, 1) := by decide +kernel
theorem dX12_tryPass_92 : decode cX12_tryPass 92 = .ok (.iastore, 1) := by decide +kernel
theorem dX12_tryPass_93 : decode cX12_tryPass 93 = .ok (.aload_n 0, 1) := by decide +kernel
theorem dX12_tryPass_94 : decode cX12_tryPass 94 = .ok (.getfield 132, 3) := by decide +kernel
theorem dX12_tryPass_97 : decode cX12_tryPass 97 = .ok (.iload 5, 2) := by decide +kernel
theorem dX12_tryPass_99 : decode cX12_tryPass 99 = .ok (.dup2, 1) := by decide +kernel
theorem dX12_tryPass_100 : decode cX12_tryPass 100 = .ok (.iaload, 1) := by decide +kernel
theorem dX12_tryPass_101 : decode cX12_tryPass 101 = .ok (.iconst 2, 1) := by decide +kernel
theorem dX12_tryPass_102 : decode cX12_tryPass 102 = .ok (.isub, 1) := by decide +kernel
theorem dX12_tryPass_103 : decode cX12_tryPass 103 = .ok (.iastore, 1) := by decide +kernel
theorem dX12_tryPass_104 : decode cX12_tryPass 104 = .ok (.aload_n 0, 1) := by decide +kernel
theorem dX12_tryPass_105 : decode cX12_tryPass 105 = .ok (.getfield 129, 3) := by decide +kernel
theorem dX12_tryPass_108 : decode cX12_tryPass 108 = .ok (.iload_n 1, 1) := by decide +kernel
theorem dX12_tryPass_109 : decode cX12_tryPass 109 = .ok (.iaload, 1) := by decide +kernel
theorem dX12_tryPass_110 : decode cX12_tryPass 110 = .ok (.istore 6, 2) := by decide +kernel
theorem dX12_tryPass_112 : decode cX12_tryPass 112 = .ok (.aload_n 0, 1) := by decide +kernel
theorem dX12_tryPass_113 : decode cX12_tryPass 113 = .ok (.getfield 129, 3) := by decide +kernel
theorem dX12_tryPass_116 : decode cX12_tryPass 116 = .ok (.iload_n 1, 1) := by decide +kernel
theorem dX12_tryPass_117 : decode cX12_tryPass 117 = .ok (.aload_n 0, 1) := by decide +kernel
theorem dX12_tryPass_118 : decode cX12_tryPass 118 = .ok (.getfield 129, 3) := by decide +kernel
theorem dX12_tryPass_121 : decode cX12_tryPass 121 = .ok (.iload_n 3, 1) := by decide +kernel
theorem dX12_tryPass_122 : decode cX12_tryPass 122 = .ok (.iaload, 1) := by decide +kernel
theorem dX12_tryPass_123 : decode cX12_tryPass 123 = .ok (.iastore, 1) := by decide +kernel
theorem dX12_tryPass_124 : decode cX12_tryPass 124 = .ok (.aload_n 0, 1) := by decide +kernel
theorem dX12_tryPass_125 : decode cX12_tryPass 125 = .ok (.getfield 129, 3) := by decide +kernel
theorem dX12_tryPass_128 : decode cX12_tryPass 128 = .ok (.iload_n 3, 1) := by decide +kernel
theorem dX12_tryPass_129 : decode cX12_tryPass 129 = .ok (.iload 6, 2) := by decide +kernel
theorem dX12_tryPass_131 : decode cX12_tryPass 131 = .ok (.iastore, 1) := by decide +kernel
theorem dX12_tryPass_132 : decode cX12_tryPass 132 = .ok (.aload_n 0, 1) := by decide +kernel
theorem dX12_tryPass_133 : decode cX12_tryPass 133 = .ok (.getfield 135, 3) := by decide +kernel
theorem dX12_tryPass_136 : decode cX12_tryPass 136 = .ok (.iload_n 1, 1) := by decide +kernel
theorem dX12_tryPass_137 : decode cX12_tryPass 137 = .ok (.iload_n 2, 1) := by decide +kernel
theorem dX12_tryPass_138 : decode cX12_tryPass 138 = .ok (.iconst 1, 1) := by decide +kernel
theorem dX12_tryPass_139 : decode cX12_tryPass 139 = .ok (.iadd, 1) := by decide +kernel
theorem dX12_tryPass_140 : decode cX12_tryPass 140 = .ok (.iastore, 1) := by decide +kernel
theorem dX12_tryPass_141 : decode cX12_tryPass 141 = .ok (.iconst 1, 1) := by decide +kernel
theorem dX12_tryPass_142 : decode cX12_tryPass 142 = .ok (.ireturn, 1) := by decide +kernel
theorem dX12_tryWalk_0 : decode cX12_tryWalk 0 = .ok (.bipush 10, 2) := by decide +kernel
theorem dX12_tryWalk_2 : decode cX12_tryWalk 2 = .ok (.aload_n 0, 1) := by decide +kernel
theorem dX12_tryWalk_3 : decode cX12_tryWalk 3 = .ok (.getfield 138, 3) := by decide +kernel
theorem dX12_tryWalk_6 : decode cX12_tryWalk 6 = .ok (.iconst 3, 1) := by decide +kernel
theorem dX12_tryWalk_7 : decode cX12_tryWalk 7 = .ok (.idiv, 1) := by decide +kernel
theorem dX12_tryWalk_8 : decode cX12_tryWalk 8 = .ok (.iadd, 1) := by decide +kernel
theorem dX12_tryWalk_9 : decode cX12_tryWalk 9 = .ok (.istore_n 2, 1) := by decide +kernel
theorem dX12_tryWalk_10 : decode cX12_tryWalk 10 = .ok (.aload_n 0, 1) := by decide +kernel
theorem dX12_tryWalk_11 : decode cX12_tryWalk 11 = .ok (.getfield 138, 3) := by decide +kernel
theorem dX12_tryWalk_14 : decode cX12_tryWalk 14 = .ok (.aload_n 0, 1) := by decide +kernel
theorem dX12_tryWalk_15 : decode cX12_tryWalk 15 = .ok (.getfield 57, 3) := by decide +kernel
theorem dX12_tryWalk_18 : decode cX12_tryWalk 18 = .ok (.if_icmp .ge 7, 3) := by decide +kernel
theorem dX12_tryWalk_21 : decode cX12_tryWalk 21 = .ok (.iconst 1, 1) := by decide +kernel
theorem dX12_tryWalk_22 : decode cX12_tryWalk 22 = .ok (.goto 4, 3) := by decide +kernel
theorem dX12_tryWalk_25 : decode cX12_tryWalk 25 = .ok (.iconst 0, 1) := by decide +kernel
theorem dX12_tryWalk_26 : decode cX12_tryWalk 26 = .ok (.istore_n 3, 1) := by decide +kernel
theorem dX12_tryWalk_27 : decode cX12_tryWalk 27 = .ok (.iconst 0, 1) := by decide +kernel
theorem dX12_tryWalk_28 : decode cX12_tryWalk 28 = .ok (.istore 4, 2) := by decide +kernel
theorem dX12_tryWalk_30 : decode cX12_tryWalk 30 = .ok (.iload 4, 2) := by decide +kernel
theorem dX12_tryWalk_32 : decode cX12_tryWalk 32 = .ok (.aload_n 0, 1) := by decide +kernel
theorem dX12_tryWalk_33 : decode cX12_tryWalk 33 = .ok (.getfield 13, 3) := by decide +kernel
theorem dX12_tryWalk_36 : decode cX12_tryWalk 36 = .ok (.if_icmp .ge 30, 3) := by decide +kernel
theorem dX12_tryWalk_39 : decode cX12_tryWalk 39 = .ok (.iload_n 3, 1) := by decide +kernel
theorem dX12_tryWalk_40 : decode cX12_tryWalk 40 = .ok (.ifCond .eq 18, 3) := by decide +kernel
theorem dX12_tryWalk_43 : decode cX12_tryWalk 43 = .ok (.aload_n 0, 1) := by decide +kernel
theorem dX12_tryWalk_44 : decode cX12_tryWalk 44 = .ok (.getfield 132, 3) := by decide +kernel
theorem dX12_tryWalk_47 : decode cX12_tryWalk 47 = .ok (.iload 4, 2) := by decide +kernel
theorem dX12_tryWalk_49 : decode cX12_tryWalk 49 = .ok (.iaload, 1) := by decide +kernel
theorem dX12_tryWalk_50 : decode cX12_tryWalk 50 = .ok (.iload_n 2, 1) := by decide +kernel
theorem dX12_tryWalk_51 : decode cX12_tryWalk 51 = .ok (.if_icmp .lt 7, 3) := by decide +kernel
theorem dX12_tryWalk_54 : decode cX12_tryWalk 54 = .ok (.iconst 1, 1) := by decide +kernel
theorem dX12_tryWalk_55 : decode cX12_tryWalk 55 = .ok (.goto 4, 3) := by decide +kernel
theorem dX12_tryWalk_58 : decode cX12_tryWalk 58 = .ok (.iconst 0, 1) := by decide +kernel
theorem dX12_tryWalk_59 : decode cX12_tryWalk 59 = .ok (.istore_n 3, 1) := by decide +kernel
theorem dX12_tryWalk_60 : decode cX12_tryWalk 60 = .ok (.iinc 4 1, 3) := by decide +kernel
theorem dX12_tryWalk_63 : decode cX12_tryWalk 63 = .ok (.goto (-33), 3) := by decide +kernel
theorem dX12_tryWalk_66 : decode cX12_tryWalk 66 = .ok (.iload_n 3, 1) := by decide +kernel
theorem dX12_tryWalk_67 : decode cX12_tryWalk 67 = .ok (.ifCond .ne 5, 3) := by decide +kernel
theorem dX12_tryWalk_70 : decode cX12_tryWalk 70 = .ok (.iconst 0, 1) := by decide +kernel
theorem dX12_tryWalk_71 : decode cX12_tryWalk 71 = .ok (.ireturn, 1) := by decide +kernel
theorem dX12_tryWalk_72 : decode cX12_tryWalk 72 = .ok (.aload_n 0, 1) := by decide +kernel
theorem dX12_tryWalk_73 : decode cX12_tryWalk 73 = .ok (.aload_n 0, 1) := by decide +kernel
theorem dX12_tryWalk_74 : decode cX12_tryWalk 74 = .ok (.getfield 129, 3) := by decide +kernel
theorem dX12_tryWalk_77 : decode cX12_tryWalk 77 = .ok (.iload_n 1, 1) := by decide +kernel
theorem dX12_tryWalk_78 : decode cX12_tryWalk 78 = .ok (.invokevirtual 215, 3) := by decide +kernel
theorem dX12_tryWalk_81 : decode cX12_tryWalk 81 = .ok (.iconst 0, 1) := by decide +kernel
theorem dX12_tryWalk_82 : decode cX12_tryWalk 82 = .ok (.istore 4, 2) := by decide +kernel
theorem dX12_tryWalk_84 : decode cX12_tryWalk 84 = .ok (.iload 4, 2) := by decide +kernel
theorem dX12_tryWalk_86 : decode cX12_tryWalk 86 = .ok (.aload_n 0, 1) := by decide +kernel
theorem dX12_tryWalk_87 : decode cX12_tryWalk 87 = .ok (.getfield 13, 3) := by decide +kernel
theorem dX12_tryWalk_90 : decode cX12_tryWalk 90 = .ok (.if_icmp .ge 88, 3) := by decide +kernel
theorem dX12_tryWalk_93 : decode cX12_tryWalk 93 = .ok (.aload_n 0, 1) := by decide +kernel
theorem dX12_tryWalk_94 : decode cX12_tryWalk 94 = .ok (.getfield 132, 3) := by decide +kernel
theorem dX12_tryWalk_97 : decode cX12_tryWalk 97 = .ok (.iload 4, 2) := by decide +kernel
theorem dX12_tryWalk_99 : decode cX12_tryWalk 99 = .ok (.dup2, 1) := by decide +kernel
theorem dX12_tryWalk_100 : decode cX12_tryWalk 100 = .ok (.iaload, 1) := by decide +kernel
theorem dX12_tryWalk_101 : decode cX12_tryWalk 101 = .ok (.iload_n 2, 1) := by decide +kernel
theorem dX12_tryWalk_102 : decode cX12_tryWalk 102 = .ok (.isub, 1) := by decide +kernel
theorem dX12_tryWalk_103 : decode cX12_tryWalk 103 = .ok (.iastore, 1) := by decide +kernel
theorem dX12_tryWalk_104 : decode cX12_tryWalk 104 = .ok (.iload_n 3, 1) := by decide +kernel
theorem dX12_tryWalk_105 : decode cX12_tryWalk 105 = .ok (.ifCond .eq 57, 3) := by decide +kernel
theorem dX12_tryWalk_108 : decode cX12_tryWalk 108 = .ok (.aload_n 0, 1) := by decide +kernel
theorem dX12_tryWalk_109 : decode cX12_tryWalk 109 = .ok (.getfield 129, 3) := by decide +kernel
theorem dX12_tryWalk_112 : decode cX12_tryWalk 112 = .ok (.iload 4, 2) := by decide +kernel
theorem dX12_tryWalk_114 : decode cX12_tryWalk 114 = .ok (.iaload, 1) := by decide +kernel
theorem dX12_tryWalk_115 : decode cX12_tryWalk 115 = .ok (.aload_n 0, 1) := by decide +kernel
theorem dX12_tryWalk_116 : decode cX12_tryWalk 116 = .ok (.getfield 66, 3) := by decide +kernel
theorem dX12_tryWalk_119 : decode cX12_tryWalk 119 = .ok (.bipush 9, 2) := by decide +kernel
theorem dX12_tryWalk_121 : decode cX12_tryWalk 121 = .ok (.aload_n 0, 1) := by decide +kernel
theorem dX12_tryWalk_122 : decode cX12_tryWalk 122 = .ok (.getfield 138, 3) := by decide +kernel
theorem dX12_tryWalk_125 : decode cX12_tryWalk 125 = .ok (.imul, 1) := by decide +kernel
theorem dX12_tryWalk_126 : decode cX12_tryWalk 126 = .ok (.iload 4, 2) := by decide +kernel
theorem dX12_tryWalk_128 : decode cX12_tryWalk 128 = .ok (.iadd, 1) := by decide +kernel
theorem dX12_tryWalk_129 : decode cX12_tryWalk 129 = .ok (.iaload, 1) := by decide +kernel
theorem dX12_tryWalk_130 : decode cX12_tryWalk 130 = .ok (.if_icmp .ne 32, 3) := by decide +kernel
theorem dX12_tryWalk_133 : decode cX12_tryWalk 133 = .ok (.aload_n 0, 1) := by decide +kernel
theorem dX12_tryWalk_134 : decode cX12_tryWalk 134 = .ok (.getfield 135, 3) := by decide +kernel
theorem dX12_tryWalk_137 : decode cX12_tryWalk 137 = .ok (.iload 4, 2) := by decide +kernel
theorem dX12_tryWalk_139 : decode cX12_tryWalk 139 = .ok (.iaload, 1) := by decide +kernel
theorem dX12_tryWalk_140 : decode cX12_tryWalk 140 = .ok (.aload_n 0, 1) := by decide +kernel
theorem dX12_tryWalk_141 : decode cX12_tryWalk 141 = .ok (.getfield 69, 3) := by decide +kernel
theorem dX12_tryWalk_144 : decode cX12_tryWalk 144 = .ok (.bipush 9, 2) := by decide +kernel
theorem dX12_tryWalk_146 : decode cX12_tryWalk 146 = .ok (.aload_n 0, 1) := by decide +kernel
theorem dX12_tryWalk_147 : decode cX12_tryWalk 147 = .ok (.getfield 138, 3) := by decide +kernel
theorem dX12_tryWalk_150 : decode cX12_tryWalk 150 = .ok (.imul, 1) := by decide +kernel
theorem dX12_tryWalk_151 : decode cX12_tryWalk 151 = .ok (.iload 4, 2) := by decide +kernel
theorem dX12_tryWalk_153 : decode cX12_tryWalk 153 = .ok (.iadd, 1) := by decide +kernel
theorem dX12_tryWalk_154 : decode cX12_tryWalk 154 = .ok (.iaload, 1) := by decide +kernel
theorem dX12_tryWalk_155 : decode cX12_tryWalk 155 = .ok (.if_icmp .ne 7, 3) := by decide +kernel
theorem dX12_tryWalk_158 : decode cX12_tryWalk 158 = .ok (.iconst 1, 1) := by decide +kernel
theorem dX12_tryWalk_159 : decode cX12_tryWalk 159 = .ok (.goto 4, 3) := by decide +kernel
theorem dX12_tryWalk_162 : decode cX12_tryWalk 162 = .ok (.iconst 0, 1) := by decide +kernel
theorem dX12_tryWalk_163 : decode cX12_tryWalk 163 = .ok (.istore_n 3, 1) := by decide +kernel
theorem dX12_tryWalk_164 : decode cX12_tryWalk 164 = .ok (.aload_n 0, 1) := by decide +kernel
theorem dX12_tryWalk_165 : decode cX12_tryWalk 165 = .ok (.getfield 135, 3) := by decide +kernel
theorem dX12_tryWalk_168 : decode cX12_tryWalk 168 = .ok (.iload 4, 2) := by decide +kernel
theorem dX12_tryWalk_170 : decode cX12_tryWalk 170 = .ok (.iconst 0, 1) := by decide +kernel
theorem dX12_tryWalk_171 : decode cX12_tryWalk 171 = .ok (.iastore, 1) := by decide +kernel
theorem dX12_tryWalk_172 : decode cX12_tryWalk 172 = .ok (.iinc 4 1, 3) := by decide +kernel
theorem dX12_tryWalk_175 : decode cX12_tryWalk 175 = .ok (.goto (-91), 3) := by decide +kernel
theorem dX12_tryWalk_178 : decode cX12_tryWalk 178 = .ok (.aload_n 0, 1) := by decide +kernel
theorem dX12_tryWalk_179 : decode cX12_tryWalk 179 = .ok (.dup, 1) := by decide +kernel
theorem dX12_tryWalk_180 : decode cX12_tryWalk 180 = .ok (.getfield 138, 3) := by decide +kernel
theorem dX12_tryWalk_183 : decode cX12_tryWalk 183 = .ok (.iconst 1, 1) := by decide +kernel
theorem dX12_tryWalk_184 : decode cX12_tryWalk 184 = .ok (.iadd, 1) := by decide +kernel
theorem dX12_tryWalk_185 : decode cX12_tryWalk 185 = .ok (.putfield 138, 3) := by decide +kernel
theorem dX12_tryWalk_188 : decode cX12_tryWalk 188 = .ok (.iload_n 3, 1) := by decide +kernel
theorem dX12_tryWalk_189 : decode cX12_tryWalk 189 = .ok (.ireturn, 1) := by decide +kernel
theorem dX12_tryStep_0 : decode cX12_tryStep 0 = .ok (.aload_n 0, 1) := by decide +kernel
theorem dX12_tryStep_1 : decode cX12_tryStep 1 = .ok (.getfield 141, 3) := by decide +kernel
theorem dX12_tryStep_4 : decode cX12_tryStep 4 = .ok (.sipush 300, 3) := by decide +kernel
theorem dX12_tryStep_7 : decode cX12_tryStep 7 = .ok (.if_icmp .ne 5, 3) := by decide +kernel
theorem dX12_tryStep_10 : decode cX12_tryStep 10 = .ok (.iconst 0, 1) := by decide +kernel
theorem dX12_tryStep_11 : decode cX12_tryStep 11 = .ok (.ireturn, 1) := by decide +kernel
theorem dX12_tryStep_12 : decode cX12_tryStep 12 = .ok (.aload_n 0, 1) := by decide +kernel
theorem dX12_tryStep_13 : decode cX12_tryStep 13 = .ok (.dup, 1) := by decide +kernel
theorem dX12_tryStep_14 : decode cX12_tryStep 14 = .ok (.getfield 141, 3) := by decide +kernel
theorem dX12_tryStep_17 : decode cX12_tryStep 17 = .ok (.iconst 1, 1) := by decide +kernel
theorem dX12_tryStep_18 : decode cX12_tryStep 18 = .ok (.iadd, 1) := by decide +kernel
theorem dX12_tryStep_19 : decode cX12_tryStep 19 = .ok (.putfield 141, 3) := by decide +kernel
theorem dX12_tryStep_22 : decode cX12_tryStep 22 = .ok (.iload_n 1, 1) := by decide +kernel
theorem dX12_tryStep_23 : decode cX12_tryStep 23 = .ok (.bipush 100, 2) := by decide +kernel
theorem dX12_tryStep_25 : decode cX12_tryStep 25 = .ok (.if_icmp .lt 14, 3) := by decide +kernel
theorem dX12_tryStep_28 : decode cX12_tryStep 28 = .ok (.aload_n 0, 1) := by decide +kernel
theorem dX12_tryStep_29 : decode cX12_tryStep 29 = .ok (.iload_n 1, 1) := by decide +kernel
theorem dX12_tryStep_30 : decode cX12_tryStep 30 = .ok (.bipush 100, 2) := by decide +kernel
theorem dX12_tryStep_32 : decode cX12_tryStep 32 = .ok (.isub, 1) := by decide +kernel
theorem dX12_tryStep_33 : decode cX12_tryStep 33 = .ok (.invokevirtual 285, 3) := by decide +kernel
theorem dX12_tryStep_36 : decode cX12_tryStep 36 = .ok (.goto 15, 3) := by decide +kernel
theorem dX12_tryStep_39 : decode cX12_tryStep 39 = .ok (.aload_n 0, 1) := by decide +kernel
theorem dX12_tryStep_40 : decode cX12_tryStep 40 = .ok (.iload_n 1, 1) := by decide +kernel
theorem dX12_tryStep_41 : decode cX12_tryStep 41 = .ok (.bipush 10, 2) := by decide +kernel
theorem dX12_tryStep_43 : decode cX12_tryStep 43 = .ok (.idiv, 1) := by decide +kernel
theorem dX12_tryStep_44 : decode cX12_tryStep 44 = .ok (.iload_n 1, 1) := by decide +kernel
theorem dX12_tryStep_45 : decode cX12_tryStep 45 = .ok (.bipush 10, 2) := by decide +kernel
theorem dX12_tryStep_47 : decode cX12_tryStep 47 = .ok (.irem, 1) := by decide +kernel
theorem dX12_tryStep_48 : decode cX12_tryStep 48 = .ok (.invokevirtual 288, 3) := by decide +kernel
theorem dX12_tryStep_51 : decode cX12_tryStep 51 = .ok (.ireturn, 1) := by decide +kernel
theorem dX12_makes_0 : decode cX12_makes 0 = .ok (.aload_n 0, 1) := by decide +kernel
theorem dX12_makes_1 : decode cX12_makes 1 = .ok (.invokevirtual 291, 3) := by decide +kernel
theorem dX12_makes_4 : decode cX12_makes 4 = .ok (.iconst 0, 1) := by decide +kernel
theorem dX12_makes_5 : decode cX12_makes 5 = .ok (.istore 4, 2) := by decide +kernel
theorem dX12_makes_7 : decode cX12_makes 7 = .ok (.iload 4, 2) := by decide +kernel
theorem dX12_makes_9 : decode cX12_makes 9 = .ok (.aload_n 0, 1) := by decide +kernel
theorem dX12_makes_10 : decode cX12_makes 10 = .ok (.getfield 96, 3) := by decide +kernel
theorem dX12_makes_13 : decode cX12_makes 13 = .ok (.iload_n 1, 1) := by decide +kernel
theorem dX12_makes_14 : decode cX12_makes 14 = .ok (.iaload, 1) := by decide +kernel
theorem dX12_makes_15 : decode cX12_makes 15 = .ok (.if_icmp .ge 90, 3) := by decide +kernel
theorem dX12_makes_18 : decode cX12_makes 18 = .ok (.aload_n 0, 1) := by decide +kernel
theorem dX12_makes_19 : decode cX12_makes 19 = .ok (.getfield 99, 3) := by decide +kernel
theorem dX12_makes_22 : decode cX12_makes 22 = .ok (.sipush 300, 3) := by decide +kernel
theorem dX12_makes_25 : decode cX12_makes 25 = .ok (.iload_n 1, 1) := by decide +kernel
theorem dX12_makes_26 : decode cX12_makes 26 = .ok (.imul, 1) := by decide +kernel
theorem dX12_makes_27 : decode cX12_makes 27 = .ok (.iload 4, 2) := by decide +kernel
theorem dX12_makes_29 : decode cX12_makes 29 = .ok (.iadd, 1) := by decide +kernel
theorem dX12_makes_30 : decode cX12_makes 30 = .ok (.iaload, 1) := by decide +kernel
theorem dX12_makes_31 : decode cX12_makes 31 = .ok (.istore 5, 2) := by decide +kernel
theorem dX12_makes_33 : decode cX12_makes 33 = .ok (.iload 4, 2) := by decide +kernel
theorem dX12_makes_35 : decode cX12_makes 35 = .ok (.iload_n 2, 1) := by decide +kernel
theorem dX12_makes_36 : decode cX12_makes 36 = .ok (.if_icmp .ne 10, 3) := by decide +kernel
theorem dX12_makes_39 : decode cX12_makes 39 = .ok (.iload_n 3, 1) := by decide +kernel
theorem dX12_makes_40 : decode cX12_makes 40 = .ok (.ifCond .ne 6, 3) := by decide +kernel
theorem dX12_makes_43 : decode cX12_makes 43 = .ok (.goto 56, 3) := by decide +kernel
theorem dX12_makes_46 : decode cX12_makes 46 = .ok (.aload_n 0, 1) := by decide +kernel
theorem dX12_makes_47 : decode cX12_makes 47 = .ok (.iload 4, 2) := by decide +kernel
theorem dX12_makes_49 : decode cX12_makes 49 = .ok (.iload_n 2, 1) := by decide +kernel
theorem dX12_makes_50 : decode cX12_makes 50 = .ok (.if_icmp .ne 17, 3) := by decide +kernel
theorem dX12_makes_53 : decode cX12_makes 53 = .ok (.iload_n 3, 1) := by decide +kernel
theorem dX12_makes_54 : decode cX12_makes 54 = .ok (.iconst 1, 1) := by decide +kernel
theorem dX12_makes_55 : decode cX12_makes 55 = .ok (.if_icmp .ne 12, 3) := by decide +kernel
theorem dX12_makes_58 : decode cX12_makes 58 = .ok (.aload_n 0, 1) := by decide +kernel
theorem dX12_makes_59 : decode cX12_makes 59 = .ok (.iload 5, 2) := by decide +kernel
theorem dX12_makes_61 : decode cX12_makes 61 = .ok (.invokevirtual 234, 3) := by decide +kernel
theorem dX12_makes_64 : decode cX12_makes 64 = .ok (.goto 5, 3) := by decide +kernel
theorem dX12_makes_67 : decode cX12_makes 67 = .ok (.iload 5, 2) := by decide +kernel
theorem dX12_makes_69 : decode cX12_makes 69 = .ok (.invokevirtual 294, 3) := by decide +kernel
theorem dX12_makes_72 : decode cX12_makes 72 = .ok (.ifCond .ne 5, 3) := by decide +kernel
theorem dX12_makes_75 : decode cX12_makes 75 = .ok (.iconst 0, 1) := by decide +kernel
theorem dX12_makes_76 : decode cX12_makes 76 = .ok (.ireturn, 1) := by decide +kernel
theorem dX12_makes_77 : decode cX12_makes 77 = .ok (.iload 4, 2) := by decide +kernel
theorem dX12_makes_79 : decode cX12_makes 79 = .ok (.iload_n 2, 1) := by decide +kernel
theorem dX12_makes_80 : decode cX12_makes 80 = .ok (.if_icmp .ne 19, 3) := by decide +kernel
theorem dX12_makes_83 : decode cX12_makes 83 = .ok (.iload_n 3, 1) := by decide +kernel
theorem dX12_makes_84 : decode cX12_makes 84 = .ok (.iconst 2, 1) := by decide +kernel
theorem dX12_makes_85 : decode cX12_makes 85 = .ok (.if_icmp .ne 14, 3) := by decide +kernel
theorem dX12_makes_88 : decode cX12_makes 88 = .ok (.aload_n 0, 1) := by decide +kernel
theorem dX12_makes_89 : decode cX12_makes 89 = .ok (.iload 5, 2) := by decide +kernel
theorem dX12_makes_91 : decode cX12_makes 91 = .ok (.invokevirtual 294, 3) := by decide +kernel
theorem dX12_makes_94 : decode cX12_makes 94 = .ok (.ifCond .ne 5, 3) := by decide +kernel
theorem dX12_makes_97 : decode cX12_makes 97 = .ok (.iconst 0, 1) := by decide +kernel
theorem dX12_makes_98 : decode cX12_makes 98 = .ok (.ireturn, 1) := by decide +kernel
theorem dX12_makes_99 : decode cX12_makes 99 = .ok (.iinc 4 1, 3) := by decide +kernel
theorem dX12_makes_102 : decode cX12_makes 102 = .ok (.goto (-95), 3) := by decide +kernel
theorem dX12_makes_105 : decode cX12_makes 105 = .ok (.aload_n 0, 1) := by decide +kernel
theorem dX12_makes_106 : decode cX12_makes 106 = .ok (.getfield 138, 3) := by decide +kernel
theorem dX12_makes_109 : decode cX12_makes 109 = .ok (.aload_n 0, 1) := by decide +kernel
theorem dX12_makes_110 : decode cX12_makes 110 = .ok (.getfield 57, 3) := by decide +kernel
theorem dX12_makes_113 : decode cX12_makes 113 = .ok (.if_icmp .ne 7, 3) := by decide +kernel
theorem dX12_makes_116 : decode cX12_makes 116 = .ok (.iconst 1, 1) := by decide +kernel
theorem dX12_makes_117 : decode cX12_makes 117 = .ok (.goto 4, 3) := by decide +kernel
theorem dX12_makes_120 : decode cX12_makes 120 = .ok (.iconst 0, 1) := by decide +kernel
theorem dX12_makes_121 : decode cX12_makes 121 = .ok (.ireturn, 1) := by decide +kernel
theorem dX12_right_0 : decode cX12_right 0 = .ok (.aload_n 0, 1) := by decide +kernel
theorem dX12_right_1 : decode cX12_right 1 = .ok (.iload_n 1, 1) := by decide +kernel
theorem dX12_right_2 : decode cX12_right 2 = .ok (.invokevirtual 244, 3) := by decide +kernel
theorem dX12_right_5 : decode cX12_right 5 = .ok (.ifCond .ne 5, 3) := by decide +kernel
theorem dX12_right_8 : decode cX12_right 8 = .ok (.iconst (-1), 1) := by decide +kernel
theorem dX12_right_9 : decode cX12_right 9 = .ok (.ireturn, 1) := by decide +kernel
theorem dX12_right_10 : decode cX12_right 10 = .ok (.aload_n 0, 1) := by decide +kernel
theorem dX12_right_11 : decode cX12_right 11 = .ok (.getfield 44, 3) := by decide +kernel
theorem dX12_right_14 : decode cX12_right 14 = .ok (.ifCond .ne 6, 3) := by decide +kernel
theorem dX12_right_17 : decode cX12_right 17 = .ok (.bipush (-3), 2) := by decide +kernel
theorem dX12_right_19 : decode cX12_right 19 = .ok (.ireturn, 1) := by decide +kernel
theorem dX12_right_20 : decode cX12_right 20 = .ok (.aload_n 0, 1) := by decide +kernel
theorem dX12_right_21 : decode cX12_right 21 = .ok (.iload_n 1, 1) := by decide +kernel
theorem dX12_right_22 : decode cX12_right 22 = .ok (.iconst (-1), 1) := by decide +kernel
theorem dX12_right_23 : decode cX12_right 23 = .ok (.iconst (-1), 1) := by decide +kernel
theorem dX12_right_24 : decode cX12_right 24 = .ok (.invokevirtual 297, 3) := by decide +kernel
theorem dX12_right_27 : decode cX12_right 27 = .ok (.ifCond .eq 7, 3) := by decide +kernel
theorem dX12_right_30 : decode cX12_right 30 = .ok (.iconst 1, 1) := by decide +kernel
theorem dX12_right_31 : decode cX12_right 31 = .ok (.goto 4, 3) := by decide +kernel
theorem dX12_right_34 : decode cX12_right 34 = .ok (.iconst 0, 1) := by decide +kernel
theorem dX12_right_35 : decode cX12_right 35 = .ok (.ireturn, 1) := by decide +kernel
theorem dX12_slips_0 : decode cX12_slips 0 = .ok (.aload_n 0, 1) := by decide +kernel
theorem dX12_slips_1 : decode cX12_slips 1 = .ok (.iload_n 1, 1) := by decide +kernel
theorem dX12_slips_2 : decode cX12_slips 2 = .ok (.invokevirtual 244, 3) := by decide +kernel
theorem dX12_slips_5 : decode cX12_slips 5 = .ok (.ifCond .eq 8, 3) := by decide +kernel
theorem dX12_slips_8 : decode cX12_slips 8 = .ok (.iload_n 2, 1) := by decide +kernel
theorem dX12_slips_9 : decode cX12_slips 9 = .ok (.iconst (-1), 1) := by decide +kernel
theorem dX12_slips_10 : decode cX12_slips 10 = .ok (.if_icmp .ge 5, 3) := by decide +kernel
theorem dX12_slips_13 : decode cX12_slips 13 = .ok (.iconst (-1), 1) := by decide +kernel
theorem dX12_slips_14 : decode cX12_slips 14 = .ok (.ireturn, 1) := by decide +kernel
theorem dX12_slips_15 : decode cX12_slips 15 = .ok (.aload_n 0, 1) := by decide +kernel
theorem dX12_slips_16 : decode cX12_slips 16 = .ok (.getfield 44, 3) := by decide +kernel
theorem dX12_slips_19 : decode cX12_slips 19 = .ok (.ifCond .ne 6, 3) := by decide +kernel
theorem dX12_slips_22 : decode cX12_slips 22 = .ok (.bipush (-3), 2) := by decide +kernel
theorem dX12_slips_24 : decode cX12_slips 24 = .ok (.ireturn, 1) := by decide +kernel
theorem dX12_slips_25 : decode cX12_slips 25 = .ok (.iconst 0, 1) := by decide +kernel
theorem dX12_slips_26 : decode cX12_slips 26 = .ok (.istore_n 3, 1) := by decide +kernel
theorem dX12_slips_27 : decode cX12_slips 27 = .ok (.iconst 0, 1) := by decide +kernel
theorem dX12_slips_28 : decode cX12_slips 28 = .ok (.istore 4, 2) := by decide +kernel
theorem dX12_slips_30 : decode cX12_slips 30 = .ok (.iload 4, 2) := by decide +kernel
theorem dX12_slips_32 : decode cX12_slips 32 = .ok (.iconst 3, 1) := by decide +kernel
theorem dX12_slips_33 : decode cX12_slips 33 = .ok (.aload_n 0, 1) := by decide +kernel
theorem dX12_slips_34 : decode cX12_slips 34 = .ok (.getfield 96, 3) := by decide +kernel
theorem dX12_slips_37 : decode cX12_slips 37 = .ok (.iload_n 1, 1) := by decide +kernel
theorem dX12_slips_38 : decode cX12_slips 38 = .ok (.iaload, 1) := by decide +kernel
theorem dX12_slips_39 : decode cX12_slips 39 = .ok (.imul, 1) := by decide +kernel
theorem dX12_slips_40 : decode cX12_slips 40 = .ok (.if_icmp .ge 49, 3) := by decide +kernel
theorem dX12_slips_43 : decode cX12_slips 43 = .ok (.aload_n 0, 1) := by decide +kernel
theorem dX12_slips_44 : decode cX12_slips 44 = .ok (.iload_n 1, 1) := by decide +kernel
theorem dX12_slips_45 : decode cX12_slips 45 = .ok (.iload 4, 2) := by decide +kernel
theorem dX12_slips_47 : decode cX12_slips 47 = .ok (.iconst 3, 1) := by decide +kernel
theorem dX12_slips_48 : decode cX12_slips 48 = .ok (.idiv, 1) := by decide +kernel
theorem dX12_slips_49 : decode cX12_slips 49 = .ok (.iload 4, 2) := by decide +kernel
theorem dX12_slips_51 : decode cX12_slips 51 = .ok (.iconst 3, 1) := by decide +kernel
theorem dX12_slips_52 : decode cX12_slips 52 = .ok (.irem, 1) := by decide +kernel
theorem dX12_slips_53 : decode cX12_slips 53 = .ok (.invokevirtual 297, 3) := by decide +kernel
theorem dX12_slips_56 : decode cX12_slips 56 = .ok (.ifCond .ne 6, 3) := by decide +kernel
theorem dX12_slips_59 : decode cX12_slips 59 = .ok (.goto 24, 3) := by decide +kernel
theorem dX12_slips_62 : decode cX12_slips 62 = .ok (.iload_n 3, 1) := by decide +kernel
theorem dX12_slips_63 : decode cX12_slips 63 = .ok (.iload_n 2, 1) := by decide +kernel
theorem dX12_slips_64 : decode cX12_slips 64 = .ok (.if_icmp .ne 16, 3) := by decide +kernel
theorem dX12_slips_67 : decode cX12_slips 67 = .ok (.bipush 10, 2) := by decide +kernel
theorem dX12_slips_69 : decode cX12_slips 69 = .ok (.iload 4, 2) := by decide +kernel
theorem dX12_slips_71 : decode cX12_slips 71 = .ok (.iconst 3, 1) := by decide +kernel
theorem dX12_slips_72 : decode cX12_slips 72 = .ok (.idiv, 1) := by decide +kernel
theorem dX12_slips_73 : decode cX12_slips 73 = .ok (.imul, 1) := by decide +kernel
theorem dX12_slips_74 : decode cX12_slips 74 = .ok (.iload 4, 2) := by decide +kernel
theorem dX12_slips_76 : decode cX12_slips 76 = .ok (.iconst 3, 1) := by decide +kernel
theorem dX12_slips_77 : decode cX12_slips 77 = .ok (.irem, 1) := by decide +kernel
theorem dX12_slips_78 : decode cX12_slips 78 = .ok (.iadd, 1) := by decide +kernel
theorem dX12_slips_79 : decode cX12_slips 79 = .ok (.ireturn, 1) := by decide +kernel
theorem dX12_slips_80 : decode cX12_slips 80 = .ok (.iinc 3 1, 3) := by decide +kernel
theorem dX12_slips_83 : decode cX12_slips 83 = .ok (.iinc 4 1, 3) := by decide +kernel
theorem dX12_slips_86 : decode cX12_slips 86 = .ok (.goto (-56), 3) := by decide +kernel
theorem dX12_slips_89 : decode cX12_slips 89 = .ok (.iload_n 2, 1) := by decide +kernel
theorem dX12_slips_90 : decode cX12_slips 90 = .ok (.iconst (-1), 1) := by decide +kernel
theorem dX12_slips_91 : decode cX12_slips 91 = .ok (.if_icmp .ne 7, 3) := by decide +kernel
theorem dX12_slips_94 : decode cX12_slips 94 = .ok (.iload_n 3, 1) := by decide +kernel
theorem dX12_slips_95 : decode cX12_slips 95 = .ok (.goto 4, 3) := by decide +kernel
theorem dX12_slips_98 : decode cX12_slips 98 = .ok (.iconst (-1), 1) := by decide +kernel
theorem dX12_slips_99 : decode cX12_slips 99 = .ok (.ireturn, 1) := by decide +kernel
theorem dX12_rank_0 : decode cX12_rank 0 = .ok (.iconst 0, 1) := by decide +kernel
theorem dX12_rank_1 : decode cX12_rank 1 = .ok (.istore_n 2, 1) := by decide +kernel
theorem dX12_rank_2 : decode cX12_rank 2 = .ok (.iconst 0, 1) := by decide +kernel
theorem dX12_rank_3 : decode cX12_rank 3 = .ok (.istore_n 3, 1) := by decide +kernel
theorem dX12_rank_4 : decode cX12_rank 4 = .ok (.iload_n 3, 1) := by decide +kernel
theorem dX12_rank_5 : decode cX12_rank 5 = .ok (.aload_n 0, 1) := by decide +kernel
theorem dX12_rank_6 : decode cX12_rank 6 = .ok (.getfield 13, 3) := by decide +kernel
theorem dX12_rank_9 : decode cX12_rank 9 = .ok (.if_icmp .ge 64, 3) := by decide +kernel
theorem dX12_rank_12 : decode cX12_rank 12 = .ok (.iconst 0, 1) := by decide +kernel
theorem dX12_rank_13 : decode cX12_rank 13 = .ok (.istore 4, 2) := by decide +kernel
theorem dX12_rank_15 : decode cX12_rank 15 = .ok (.iload_n 3, 1) := by decide +kernel
theorem dX12_rank_16 : decode cX12_rank 16 = .ok (.iconst 1, 1) := by decide +kernel
theorem dX12_rank_17 : decode cX12_rank 17 = .ok (.iadd, 1) := by decide +kernel
theorem dX12_rank_18 : decode cX12_rank 18 = .ok (.istore 5, 2) := by decide +kernel
theorem dX12_rank_20 : decode cX12_rank 20 = .ok (.iload 5, 2) := by decide +kernel
theorem dX12_rank_22 : decode cX12_rank 22 = .ok (.aload_n 0, 1) := by decide +kernel
theorem dX12_rank_23 : decode cX12_rank 23 = .ok (.getfield 13, 3) := by decide +kernel
theorem dX12_rank_26 : decode cX12_rank 26 = .ok (.if_icmp .ge 29, 3) := by decide +kernel
theorem dX12_rank_29 : decode cX12_rank 29 = .ok (.iload 4, 2) := by decide +kernel
theorem dX12_rank_31 : decode cX12_rank 31 = .ok (.aload_n 1, 1) := by decide +kernel
theorem dX12_rank_32 : decode cX12_rank 32 = .ok (.iload 5, 2) := by decide +kernel
theorem dX12_rank_34 : decode cX12_rank 34 = .ok (.iaload, 1) := by decide +kernel
theorem dX12_rank_35 : decode cX12_rank 35 = .ok (.aload_n 1, 1) := by decide +kernel
theorem dX12_rank_36 : decode cX12_rank 36 = .ok (.iload_n 3, 1) := by decide +kernel
theorem dX12_rank_37 : decode cX12_rank 37 = .ok (.iaload, 1) := by decide +kernel
theorem dX12_rank_38 : decode cX12_rank 38 = .ok (.if_icmp .ge 7, 3) := by decide +kernel
theorem dX12_rank_41 : decode cX12_rank 41 = .ok (.iconst 1, 1) := by decide +kernel
theorem dX12_rank_42 : decode cX12_rank 42 = .ok (.goto 4, 3) := by decide +kernel
theorem dX12_rank_45 : decode cX12_rank 45 = .ok (.iconst 0, 1) := by decide +kernel
theorem dX12_rank_46 : decode cX12_rank 46 = .ok (.iadd, 1) := by decide +kernel
theorem dX12_rank_47 : decode cX12_rank 47 = .ok (.istore 4, 2) := by decide +kernel
theorem dX12_rank_49 : decode cX12_rank 49 = .ok (.iinc 5 1, 3) := by decide +kernel
theorem dX12_rank_52 : decode cX12_rank 52 = .ok (.goto (-32), 3) := by decide +kernel
theorem dX12_rank_55 : decode cX12_rank 55 = .ok (.iload_n 2, 1) := by decide +kernel
theorem dX12_rank_56 : decode cX12_rank 56 = .ok (.aload_n 0, 1) := by decide +kernel
theorem dX12_rank_57 : decode cX12_rank 57 = .ok (.getfield 13, 3) := by decide +kernel
theorem dX12_rank_60 : decode cX12_rank 60 = .ok (.iload_n 3, 1) := by decide +kernel
theorem dX12_rank_61 : decode cX12_rank 61 = .ok (.isub, 1) := by decide +kernel
theorem dX12_rank_62 : decode cX12_rank 62 = .ok (.imul, 1) := by decide +kernel
theorem dX12_rank_63 : decode cX12_rank 63 = .ok (.iload 4, 2) := by decide +kernel
theorem dX12_rank_65 : decode cX12_rank 65 = .ok (.iadd, 1) := by decide +kernel
theorem dX12_rank_66 : decode cX12_rank 66 = .ok (.istore_n 2, 1) := by decide +kernel
theorem dX12_rank_67 : decode cX12_rank 67 = .ok (.iinc 3 1, 3) := by decide +kernel
theorem dX12_rank_70 : decode cX12_rank 70 = .ok (.goto (-66), 3) := by decide +kernel
theorem dX12_rank_73 : decode cX12_rank 73 = .ok (.iload_n 2, 1) := by decide +kernel
theorem dX12_rank_74 : decode cX12_rank 74 = .ok (.ireturn, 1) := by decide +kernel
theorem dX12_unrank_0 : decode cX12_unrank 0 = .ok (.iload_n 1, 1) := by decide +kernel
theorem dX12_unrank_1 : decode cX12_unrank 1 = .ok (.istore_n 3, 1) := by decide +kernel
theorem dX12_unrank_2 : decode cX12_unrank 2 = .ok (.aload_n 0, 1) := by decide +kernel
theorem dX12_unrank_3 : decode cX12_unrank 3 = .ok (.getfield 13, 3) := by decide +kernel
theorem dX12_unrank_6 : decode cX12_unrank 6 = .ok (.iconst 1, 1) := by decide +kernel
theorem dX12_unrank_7 : decode cX12_unrank 7 = .ok (.isub, 1) := by decide +kernel
theorem dX12_unrank_8 : decode cX12_unrank 8 = .ok (.istore 4, 2) := by decide +kernel
theorem dX12_unrank_10 : decode cX12_unrank 10 = .ok (.iload 4, 2) := by decide +kernel
theorem dX12_unrank_12 : decode cX12_unrank 12 = .ok (.ifCond .lt 35, 3) := by decide +kernel
theorem dX12_unrank_15 : decode cX12_unrank 15 = .ok (.aload_n 0, 1) := by decide +kernel
theorem dX12_unrank_16 : decode cX12_unrank 16 = .ok (.getfield 162, 3) := by decide +kernel
theorem dX12_unrank_19 : decode cX12_unrank 19 = .ok (.iload 4, 2) := by decide +kernel
theorem dX12_unrank_21 : decode cX12_unrank 21 = .ok (.iload_n 3, 1) := by decide +kernel
theorem dX12_unrank_22 : decode cX12_unrank 22 = .ok (.aload_n 0, 1) := by decide +kernel
theorem dX12_unrank_23 : decode cX12_unrank 23 = .ok (.getfield 13, 3) := by decide +kernel
theorem dX12_unrank_26 : decode cX12_unrank 26 = .ok (.iload 4, 2) := by decide +kernel
theorem dX12_unrank_28 : decode cX12_unrank 28 = .ok (.isub, 1) := by decide +kernel
theorem dX12_unrank_29 : decode cX12_unrank 29 = .ok (.irem, 1) := by decide +kernel
theorem dX12_unrank_30 : decode cX12_unrank 30 = .ok (.iastore, 1) := by decide +kernel
theorem dX12_unrank_31 : decode cX12_unrank 31 = .ok (.iload_n 3, 1) := by decide +kernel
theorem dX12_unrank_32 : decode cX12_unrank 32 = .ok (.aload_n 0, 1) := by decide +kernel
theorem dX12_unrank_33 : decode cX12_unrank 33 = .ok (.getfield 13, 3) := by decide +kernel
theorem dX12_unrank_36 : decode cX12_unrank 36 = .ok (.iload 4, 2) := by decide +kernel
theorem dX12_unrank_38 : decode cX12_unrank 38 = .ok (.isub, 1) := by decide +kernel
theorem dX12_unrank_39 : decode cX12_unrank 39 = .ok (.idiv, 1) := by decide +kernel
theorem dX12_unrank_40 : decode cX12_unrank 40 = .ok (.istore_n 3, 1) := by decide +kernel
theorem dX12_unrank_41 : decode cX12_unrank 41 = .ok (.iinc 4 (-1), 3) := by decide +kernel
theorem dX12_unrank_44 : decode cX12_unrank 44 = .ok (.goto (-34), 3) := by decide +kernel
theorem dX12_unrank_47 : decode cX12_unrank 47 = .ok (.iconst 0, 1) := by decide +kernel
theorem dX12_unrank_48 : decode cX12_unrank 48 = .ok (.istore 4, 2) := by decide +kernel
theorem dX12_unrank_50 : decode cX12_unrank 50 = .ok (.iconst 0, 1) := by decide +kernel
theorem dX12_unrank_51 : decode cX12_unrank 51 = .ok (.istore 5, 2) := by decide +kernel
theorem dX12_unrank_53 : decode cX12_unrank 53 = .ok (.iload 5, 2) := by decide +kernel
theorem dX12_unrank_55 : decode cX12_unrank 55 = .ok (.aload_n 0, 1) := by decide +kernel
theorem dX12_unrank_56 : decode cX12_unrank 56 = .ok (.getfield 13, 3) := by decide +kernel
theorem dX12_unrank_59 : decode cX12_unrank 59 = .ok (.if_icmp .ge 79, 3) := by decide +kernel
theorem dX12_unrank_62 : decode cX12_unrank 62 = .ok (.iconst 0, 1) := by decide +kernel
theorem dX12_unrank_63 : decode cX12_unrank 63 = .ok (.istore 6, 2) := by decide +kernel
theorem dX12_unrank_65 : decode cX12_unrank 65 = .ok (.aload_n 0, 1) := by decide +kernel
theorem dX12_unrank_66 : decode cX12_unrank 66 = .ok (.getfield 162, 3) := by decide +kernel
theorem dX12_unrank_69 : decode cX12_unrank 69 = .ok (.iload 5, 2) := by decide +kernel
theorem dX12_unrank_71 : decode cX12_unrank 71 = .ok (.iaload, 1) := by decide +kernel
theorem dX12_unrank_72 : decode cX12_unrank 72 = .ok (.istore 7, 2) := by decide +kernel
theorem dX12_unrank_74 : decode cX12_unrank 74 = .ok (.iload 4, 2) := by decide +kernel
theorem dX12_unrank_76 : decode cX12_unrank 76 = .ok (.iload 6, 2) := by decide +kernel
theorem dX12_unrank_78 : decode cX12_unrank 78 = .ok (.ishr, 1) := by decide +kernel
theorem dX12_unrank_79 : decode cX12_unrank 79 = .ok (.iconst 1, 1) := by decide +kernel
theorem dX12_unrank_80 : decode cX12_unrank 80 = .ok (.iand, 1) := by decide +kernel
theorem dX12_unrank_81 : decode cX12_unrank 81 = .ok (.iconst 1, 1) := by decide +kernel
theorem dX12_unrank_82 : decode cX12_unrank 82 = .ok (.if_icmp .eq 8, 3) := by decide +kernel
theorem dX12_unrank_85 : decode cX12_unrank 85 = .ok (.iload 7, 2) := by decide +kernel
theorem dX12_unrank_87 : decode cX12_unrank 87 = .ok (.ifCond .le 30, 3) := by decide +kernel
theorem dX12_unrank_90 : decode cX12_unrank 90 = .ok (.iload 7, 2) := by decide +kernel
theorem dX12_unrank_92 : decode cX12_unrank 92 = .ok (.iload 4, 2) := by decide +kernel
theorem dX12_unrank_94 : decode cX12_unrank 94 = .ok (.iload 6, 2) := by decide +kernel
theorem dX12_unrank_96 : decode cX12_unrank 96 = .ok (.ishr, 1) := by decide +kernel
theorem dX12_unrank_97 : decode cX12_unrank 97 = .ok (.iconst 1, 1) := by decide +kernel
theorem dX12_unrank_98 : decode cX12_unrank 98 = .ok (.iand, 1) := by decide +kernel
theorem dX12_unrank_99 : decode cX12_unrank 99 = .ok (.iconst 1, 1) := by decide +kernel
theorem dX12_unrank_100 : decode cX12_unrank 100 = .ok (.if_icmp .ne 7, 3) := by decide +kernel
theorem dX12_unrank_103 : decode cX12_unrank 103 = .ok (.iconst 0, 1) := by decide +kernel
theorem dX12_unrank_104 : decode cX12_unrank 104 = .ok (.goto 4, 3) := by decide +kernel
theorem dX12_unrank_107 : decode cX12_unrank 107 = .ok (.iconst 1, 1) := by decide +kernel
theorem dX12_unrank_108 : decode cX12_unrank 108 = .ok (.isub, 1) := by decide +kernel
theorem dX12_unrank_109 : decode cX12_unrank 109 = .ok (.istore 7, 2) := by decide +kernel
theorem dX12_unrank_111 : decode cX12_unrank 111 = .ok (.iinc 6 1, 3) := by decide +kernel
theorem dX12_unrank_114 : decode cX12_unrank 114 = .ok (.goto (-40), 3) := by decide +kernel
theorem dX12_unrank_117 : decode cX12_unrank 117 = .ok (.aload_n 2, 1) := by decide +kernel
theorem dX12_unrank_118 : decode cX12_unrank 118 = .ok (.iload 5, 2) := by decide +kernel
theorem dX12_unrank_120 : decode cX12_unrank 120 = .ok (.iload 6, 2) := by decide +kernel
theorem dX12_unrank_122 : decode cX12_unrank 122 = .ok (.iastore, 1) := by decide +kernel
theorem dX12_unrank_123 : decode cX12_unrank 123 = .ok (.iload 4, 2) := by decide +kernel
theorem dX12_unrank_125 : decode cX12_unrank 125 = .ok (.iconst 1, 1) := by decide +kernel
theorem dX12_unrank_126 : decode cX12_unrank 126 = .ok (.iload 6, 2) := by decide +kernel
theorem dX12_unrank_128 : decode cX12_unrank 128 = .ok (.ishl, 1) := by decide +kernel
theorem dX12_unrank_129 : decode cX12_unrank 129 = .ok (.ior, 1) := by decide +kernel
theorem dX12_unrank_130 : decode cX12_unrank 130 = .ok (.istore 4, 2) := by decide +kernel
theorem dX12_unrank_132 : decode cX12_unrank 132 = .ok (.iinc 5 1, 3) := by decide +kernel
theorem dX12_unrank_135 : decode cX12_unrank 135 = .ok (.goto (-82), 3) := by decide +kernel
theorem dX12_unrank_138 : decode cX12_unrank 138 = .ok (.return_, 1) := by decide +kernel
theorem dX12_swap_0 : decode cX12_swap 0 = .ok (.aload_n 1, 1) := by decide +kernel
theorem dX12_swap_1 : decode cX12_swap 1 = .ok (.iload_n 2, 1) := by decide +kernel
theorem dX12_swap_2 : decode cX12_swap 2 = .ok (.iaload, 1) := by decide +kernel
theorem dX12_swap_3 : decode cX12_swap 3 = .ok (.istore_n 3, 1) := by decide +kernel
theorem dX12_swap_4 : decode cX12_swap 4 = .ok (.aload_n 1, 1) := by decide +kernel
theorem dX12_swap_5 : decode cX12_swap 5 = .ok (.iload_n 2, 1) := by decide +kernel
theorem dX12_swap_6 : decode cX12_swap 6 = .ok (.aload_n 1, 1) := by decide +kernel
theorem dX12_swap_7 : decode cX12_swap 7 = .ok (.aload_n 0, 1) := by decide +kernel
theorem dX12_swap_8 : decode cX12_swap 8 = .ok (.iload_n 2, 1) := by decide +kernel
theorem dX12_swap_9 : decode cX12_swap 9 = .ok (.invokevirtual 207, 3) := by decide +kernel
theorem dX12_swap_12 : decode cX12_swap 12 = .ok (.iaload, 1) := by decide +kernel
theorem dX12_swap_13 : decode cX12_swap 13 = .ok (.iastore, 1) := by decide +kernel
theorem dX12_swap_14 : decode cX12_swap 14 = .ok (.aload_n 1, 1) := by decide +kernel
theorem dX12_swap_15 : decode cX12_swap 15 = .ok (.aload_n 0, 1) := by decide +kernel
theorem dX12_swap_16 : decode cX12_swap 16 = .ok (.iload_n 2, 1) := by decide +kernel
theorem dX12_swap_17 : decode cX12_swap 17 = .ok (.invokevirtual 207, 3) := by decide +kernel
theorem dX12_swap_20 : decode cX12_swap 20 = .ok (.iload_n 3, 1) := by decide +kernel
theorem dX12_swap_21 : decode cX12_swap 21 = .ok (.iastore, 1) := by decide +kernel
theorem dX12_swap_22 : decode cX12_swap 22 = .ok (.return_, 1) := by decide +kernel
theorem dX12_findFar_0 : decode cX12_findFar 0 = .ok (.iconst 1, 1) := by decide +kernel
theorem dX12_findFar_1 : decode cX12_findFar 1 = .ok (.istore_n 1, 1) := by decide +kernel
theorem dX12_findFar_2 : decode cX12_findFar 2 = .ok (.iconst 2, 1) := by decide +kernel
theorem dX12_findFar_3 : decode cX12_findFar 3 = .ok (.istore_n 2, 1) := by decide +kernel
theorem dX12_findFar_4 : decode cX12_findFar 4 = .ok (.iload_n 2, 1) := by decide +kernel
theorem dX12_findFar_5 : decode cX12_findFar 5 = .ok (.aload_n 0, 1) := by decide +kernel
theorem dX12_findFar_6 : decode cX12_findFar 6 = .ok (.getfield 13, 3) := by decide +kernel
theorem dX12_findFar_9 : decode cX12_findFar 9 = .ok (.if_icmp .gt 13, 3) := by decide +kernel
theorem dX12_findFar_12 : decode cX12_findFar 12 = .ok (.iload_n 1, 1) := by decide +kernel
theorem dX12_findFar_13 : decode cX12_findFar 13 = .ok (.iload_n 2, 1) := by decide +kernel
theorem dX12_findFar_14 : decode cX12_findFar 14 = .ok (.imul, 1) := by decide +kernel
theorem dX12_findFar_15 : decode cX12_findFar 15 = .ok (.istore_n 1, 1) := by decide +kernel
theorem dX12_findFar_16 : decode cX12_findFar 16 = .ok (.iinc 2 1, 3) := by decide +kernel
theorem dX12_findFar_19 : decode cX12_findFar 19 = .ok (.goto (-15), 3) := by decide +kernel
theorem dX12_findFar_22 : decode cX12_findFar 22 = .ok (.iconst 0, 1) := by decide +kernel
theorem dX12_findFar_23 : decode cX12_findFar 23 = .ok (.istore_n 2, 1) := by decide +kernel
theorem dX12_findFar_24 : decode cX12_findFar 24 = .ok (.iload_n 2, 1) := by decide +kernel
theorem dX12_findFar_25 : decode cX12_findFar 25 = .ok (.iload_n 1, 1) := by decide +kernel
theorem dX12_findFar_26 : decode cX12_findFar 26 = .ok (.if_icmp .ge 16, 3) := by decide +kernel
theorem dX12_findFar_29 : decode cX12_findFar 29 = .ok (.aload_n 0, 1) := by decide +kernel
theorem dX12_findFar_30 : decode cX12_findFar 30 = .ok (.getfield 150, 3) := by decide +kernel
theorem dX12_findFar_33 : decode cX12_findFar 33 = .ok (.iload_n 2, 1) := by decide +kernel
theorem dX12_findFar_34 : decode cX12_findFar 34 = .ok (.iconst (-1), 1) := by decide +kernel
theorem dX12_findFar_35 : decode cX12_findFar 35 = .ok (.iastore, 1) := by decide +kernel
theorem dX12_findFar_36 : decode cX12_findFar 36 = .ok (.iinc 2 1, 3) := by decide +kernel
theorem dX12_findFar_39 : decode cX12_findFar 39 = .ok (.goto (-15), 3) := by decide +kernel
theorem dX12_findFar_42 : decode cX12_findFar 42 = .ok (.iconst 0, 1) := by decide +kernel
theorem dX12_findFar_43 : decode cX12_findFar 43 = .ok (.istore_n 2, 1) := by decide +kernel
theorem dX12_findFar_44 : decode cX12_findFar 44 = .ok (.iconst 1, 1) := by decide +kernel
theorem dX12_findFar_45 : decode cX12_findFar 45 = .ok (.istore_n 3, 1) := by decide +kernel
theorem dX12_findFar_46 : decode cX12_findFar 46 = .ok (.aload_n 0, 1) := by decide +kernel
theorem dX12_findFar_47 : decode cX12_findFar 47 = .ok (.getfield 153, 3) := by decide +kernel
theorem dX12_findFar_50 : decode cX12_findFar 50 = .ok (.iconst 0, 1) := by decide +kernel
theorem dX12_findFar_51 : decode cX12_findFar 51 = .ok (.aload_n 0, 1) := by decide +kernel
theorem dX12_findFar_52 : decode cX12_findFar 52 = .ok (.aload_n 0, 1) := by decide +kernel
theorem dX12_findFar_53 : decode cX12_findFar 53 = .ok (.getfield 147, 3) := by decide +kernel
theorem dX12_findFar_56 : decode cX12_findFar 56 = .ok (.invokevirtual 300, 3) := by decide +kernel
theorem dX12_findFar_59 : decode cX12_findFar 59 = .ok (.iastore, 1) := by decide +kernel
theorem dX12_findFar_60 : decode cX12_findFar 60 = .ok (.aload_n 0, 1) := by decide +kernel
theorem dX12_findFar_61 : decode cX12_findFar 61 = .ok (.getfield 150, 3) := by decide +kernel
theorem dX12_findFar_64 : decode cX12_findFar 64 = .ok (.aload_n 0, 1) := by decide +kernel
theorem dX12_findFar_65 : decode cX12_findFar 65 = .ok (.getfield 153, 3) := by decide +kernel
theorem dX12_findFar_68 : decode cX12_findFar 68 = .ok (.iconst 0, 1) := by decide +kernel
theorem dX12_findFar_69 : decode cX12_findFar 69 = .ok (.iaload, 1) := by decide +kernel
theorem dX12_findFar_70 : decode cX12_findFar 70 = .ok (.iconst 0, 1) := by decide +kernel
theorem dX12_findFar_71 : decode cX12_findFar 71 = .ok (.iastore, 1) := by decide +kernel
theorem dX12_findFar_72 : decode cX12_findFar 72 = .ok (.iload_n 2, 1) := by decide +kernel
theorem dX12_findFar_73 : decode cX12_findFar 73 = .ok (.iload_n 3, 1) := by decide +kernel
theorem dX12_findFar_74 : decode cX12_findFar 74 = .ok (.if_icmp .ge 116, 3) := by decide +kernel
theorem dX12_findFar_77 : decode cX12_findFar 77 = .ok (.aload_n 0, 1) := by decide +kernel
theorem dX12_findFar_78 : decode cX12_findFar 78 = .ok (.getfield 150, 3) := by decide +kernel
theorem dX12_findFar_81 : decode cX12_findFar 81 = .ok (.aload_n 0, 1) := by decide +kernel
theorem dX12_findFar_82 : decode cX12_findFar 82 = .ok (.getfield 153, 3) := by decide +kernel
theorem dX12_findFar_85 : decode cX12_findFar 85 = .ok (.iload_n 2, 1) := by decide +kernel
theorem dX12_findFar_86 : decode cX12_findFar 86 = .ok (.iaload, 1) := by decide +kernel
