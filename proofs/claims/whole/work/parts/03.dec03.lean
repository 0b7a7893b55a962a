theorem dX11_taken_9 : decode cX11_taken 9 = .ok (.bipush (-2), 2) := by decide +kernel
theorem dX11_taken_11 : decode cX11_taken 11 = .ok (.ireturn, 1) := by decide +kernel
theorem dX11_taken_12 : decode cX11_taken 12 = .ok (.aload_n 0, 1) := by decide +kernel
theorem dX11_taken_13 : decode cX11_taken 13 = .ok (.iload_n 1, 1) := by decide +kernel
theorem dX11_taken_14 : decode cX11_taken 14 = .ok (.invokevirtual 133, 3) := by decide +kernel
theorem dX11_taken_17 : decode cX11_taken 17 = .ok (.astore_n 3, 1) := by decide +kernel
theorem dX11_taken_18 : decode cX11_taken 18 = .ok (.aload_n 3, 1) := by decide +kernel
theorem dX11_taken_19 : decode cX11_taken 19 = .ok (.ifnonnull 6, 3) := by decide +kernel
theorem dX11_taken_22 : decode cX11_taken 22 = .ok (.bipush (-11), 2) := by decide +kernel
theorem dX11_taken_24 : decode cX11_taken 24 = .ok (.ireturn, 1) := by decide +kernel
theorem dX11_taken_25 : decode cX11_taken 25 = .ok (.aload_n 3, 1) := by decide +kernel
theorem dX11_taken_26 : decode cX11_taken 26 = .ok (.iload_n 2, 1) := by decide +kernel
theorem dX11_taken_27 : decode cX11_taken 27 = .ok (.invokevirtual 323, 3) := by decide +kernel
theorem dX11_taken_30 : decode cX11_taken 30 = .ok (.ifCond .eq 10, 3) := by decide +kernel
theorem dX11_taken_33 : decode cX11_taken 33 = .ok (.aload_n 3, 1) := by decide +kernel
theorem dX11_taken_34 : decode cX11_taken 34 = .ok (.getfield 144, 3) := by decide +kernel
theorem dX11_taken_37 : decode cX11_taken 37 = .ok (.goto 5, 3) := by decide +kernel
theorem dX11_taken_40 : decode cX11_taken 40 = .ok (.bipush (-12), 2) := by decide +kernel
theorem dX11_taken_42 : decode cX11_taken 42 = .ok (.ireturn, 1) := by decide +kernel
theorem dX11_count_0 : decode cX11_count 0 = .ok (.iload_n 1, 1) := by decide +kernel
theorem dX11_count_1 : decode cX11_count 1 = .ok (.tableswitch 113 0 7 #[47, 52, 60, 68, 76, 84, 92, 105], 47) := by decide +kernel
theorem dX11_count_48 : decode cX11_count 48 = .ok (.aload_n 0, 1) := by decide +kernel
theorem dX11_count_49 : decode cX11_count 49 = .ok (.getfield 15, 3) := by decide +kernel
theorem dX11_count_52 : decode cX11_count 52 = .ok (.ireturn, 1) := by decide +kernel
theorem dX11_count_53 : decode cX11_count 53 = .ok (.aload_n 0, 1) := by decide +kernel
theorem dX11_count_54 : decode cX11_count 54 = .ok (.getfield 36, 3) := by decide +kernel
theorem dX11_count_57 : decode cX11_count 57 = .ok (.getfield 157, 3) := by decide +kernel
theorem dX11_count_60 : decode cX11_count 60 = .ok (.ireturn, 1) := by decide +kernel
theorem dX11_count_61 : decode cX11_count 61 = .ok (.aload_n 0, 1) := by decide +kernel
theorem dX11_count_62 : decode cX11_count 62 = .ok (.getfield 49, 3) := by decide +kernel
theorem dX11_count_65 : decode cX11_count 65 = .ok (.getfield 174, 3) := by decide +kernel
theorem dX11_count_68 : decode cX11_count 68 = .ok (.ireturn, 1) := by decide +kernel
theorem dX11_count_69 : decode cX11_count 69 = .ok (.aload_n 0, 1) := by decide +kernel
theorem dX11_count_70 : decode cX11_count 70 = .ok (.getfield 79, 3) := by decide +kernel
theorem dX11_count_73 : decode cX11_count 73 = .ok (.getfield 252, 3) := by decide +kernel
theorem dX11_count_76 : decode cX11_count 76 = .ok (.ireturn, 1) := by decide +kernel
theorem dX11_count_77 : decode cX11_count 77 = .ok (.aload_n 0, 1) := by decide +kernel
theorem dX11_count_78 : decode cX11_count 78 = .ok (.getfield 79, 3) := by decide +kernel
theorem dX11_count_81 : decode cX11_count 81 = .ok (.getfield 249, 3) := by decide +kernel
theorem dX11_count_84 : decode cX11_count 84 = .ok (.ireturn, 1) := by decide +kernel
theorem dX11_count_85 : decode cX11_count 85 = .ok (.aload_n 0, 1) := by decide +kernel
theorem dX11_count_86 : decode cX11_count 86 = .ok (.getfield 63, 3) := by decide +kernel
theorem dX11_count_89 : decode cX11_count 89 = .ok (.getfield 212, 3) := by decide +kernel
theorem dX11_count_92 : decode cX11_count 92 = .ok (.ireturn, 1) := by decide +kernel
theorem dX11_count_93 : decode cX11_count 93 = .ok (.aload_n 0, 1) := by decide +kernel
theorem dX11_count_94 : decode cX11_count 94 = .ok (.getfield 40, 3) := by decide +kernel
theorem dX11_count_97 : decode cX11_count 97 = .ok (.ifCond .eq 7, 3) := by decide +kernel
theorem dX11_count_100 : decode cX11_count 100 = .ok (.iconst 1, 1) := by decide +kernel
theorem dX11_count_101 : decode cX11_count 101 = .ok (.goto 4, 3) := by decide +kernel
theorem dX11_count_104 : decode cX11_count 104 = .ok (.iconst 0, 1) := by decide +kernel
theorem dX11_count_105 : decode cX11_count 105 = .ok (.ireturn, 1) := by decide +kernel
theorem dX11_count_106 : decode cX11_count 106 = .ok (.aload_n 0, 1) := by decide +kernel
theorem dX11_count_107 : decode cX11_count 107 = .ok (.getfield 22, 3) := by decide +kernel
theorem dX11_count_110 : decode cX11_count 110 = .ok (.getfield 313, 3) := by decide +kernel
theorem dX11_count_113 : decode cX11_count 113 = .ok (.ireturn, 1) := by decide +kernel
theorem dX11_count_114 : decode cX11_count 114 = .ok (.bipush (-2), 2) := by decide +kernel
theorem dX11_count_116 : decode cX11_count 116 = .ok (.ireturn, 1) := by decide +kernel
theorem dX11_tape_0 : decode cX11_tape 0 = .ok (.aload_n 0, 1) := by decide +kernel
theorem dX11_tape_1 : decode cX11_tape 1 = .ok (.iload_n 1, 1) := by decide +kernel
theorem dX11_tape_2 : decode cX11_tape 2 = .ok (.invokevirtual 278, 3) := by decide +kernel
theorem dX11_tape_5 : decode cX11_tape 5 = .ok (.astore 4, 2) := by decide +kernel
theorem dX11_tape_7 : decode cX11_tape 7 = .ok (.aload 4, 2) := by decide +kernel
theorem dX11_tape_9 : decode cX11_tape 9 = .ok (.ifnonnull 5, 3) := by decide +kernel
theorem dX11_tape_12 : decode cX11_tape 12 = .ok (.iconst (-1), 1) := by decide +kernel
theorem dX11_tape_13 : decode cX11_tape 13 = .ok (.ireturn, 1) := by decide +kernel
theorem dX11_tape_14 : decode cX11_tape 14 = .ok (.iload_n 2, 1) := by decide +kernel
theorem dX11_tape_15 : decode cX11_tape 15 = .ok (.iconst (-1), 1) := by decide +kernel
theorem dX11_tape_16 : decode cX11_tape 16 = .ok (.if_icmp .ne 10, 3) := by decide +kernel
theorem dX11_tape_19 : decode cX11_tape 19 = .ok (.aload 4, 2) := by decide +kernel
theorem dX11_tape_21 : decode cX11_tape 21 = .ok (.invokevirtual 326, 3) := by decide +kernel
theorem dX11_tape_24 : decode cX11_tape 24 = .ok (.iconst 1, 1) := by decide +kernel
theorem dX11_tape_25 : decode cX11_tape 25 = .ok (.ireturn, 1) := by decide +kernel
theorem dX11_tape_26 : decode cX11_tape 26 = .ok (.iload_n 2, 1) := by decide +kernel
theorem dX11_tape_27 : decode cX11_tape 27 = .ok (.ifCond .lt 14, 3) := by decide +kernel
theorem dX11_tape_30 : decode cX11_tape 30 = .ok (.iload_n 2, 1) := by decide +kernel
theorem dX11_tape_31 : decode cX11_tape 31 = .ok (.iconst 4, 1) := by decide +kernel
theorem dX11_tape_32 : decode cX11_tape 32 = .ok (.if_icmp .gt 9, 3) := by decide +kernel
theorem dX11_tape_35 : decode cX11_tape 35 = .ok (.iload_n 3, 1) := by decide +kernel
theorem dX11_tape_36 : decode cX11_tape 36 = .ok (.bipush 60, 2) := by decide +kernel
theorem dX11_tape_38 : decode cX11_tape 38 = .ok (.if_icmp .le 6, 3) := by decide +kernel
theorem dX11_tape_41 : decode cX11_tape 41 = .ok (.bipush (-2), 2) := by decide +kernel
theorem dX11_tape_43 : decode cX11_tape 43 = .ok (.ireturn, 1) := by decide +kernel
theorem dX11_tape_44 : decode cX11_tape 44 = .ok (.iload_n 3, 1) := by decide +kernel
theorem dX11_tape_45 : decode cX11_tape 45 = .ok (.ifCond .ge 6, 3) := by decide +kernel
theorem dX11_tape_48 : decode cX11_tape 48 = .ok (.bipush (-14), 2) := by decide +kernel
theorem dX11_tape_50 : decode cX11_tape 50 = .ok (.ireturn, 1) := by decide +kernel
theorem dX11_tape_51 : decode cX11_tape 51 = .ok (.aload 4, 2) := by decide +kernel
theorem dX11_tape_53 : decode cX11_tape 53 = .ok (.iload_n 2, 1) := by decide +kernel
theorem dX11_tape_54 : decode cX11_tape 54 = .ok (.iload_n 3, 1) := by decide +kernel
theorem dX11_tape_55 : decode cX11_tape 55 = .ok (.invokevirtual 329, 3) := by decide +kernel
theorem dX11_tape_58 : decode cX11_tape 58 = .ok (.iconst 1, 1) := by decide +kernel
theorem dX11_tape_59 : decode cX11_tape 59 = .ok (.ireturn, 1) := by decide +kernel
theorem dX11_item_0 : decode cX11_item 0 = .ok (.aload_n 0, 1) := by decide +kernel
theorem dX11_item_1 : decode cX11_item 1 = .ok (.iload_n 1, 1) := by decide +kernel
theorem dX11_item_2 : decode cX11_item 2 = .ok (.invokevirtual 278, 3) := by decide +kernel
theorem dX11_item_5 : decode cX11_item 5 = .ok (.astore 4, 2) := by decide +kernel
theorem dX11_item_7 : decode cX11_item 7 = .ok (.aload 4, 2) := by decide +kernel
theorem dX11_item_9 : decode cX11_item 9 = .ok (.ifnonnull 5, 3) := by decide +kernel
theorem dX11_item_12 : decode cX11_item 12 = .ok (.iconst (-1), 1) := by decide +kernel
theorem dX11_item_13 : decode cX11_item 13 = .ok (.ireturn, 1) := by decide +kernel
theorem dX11_item_14 : decode cX11_item 14 = .ok (.aload 4, 2) := by decide +kernel
theorem dX11_item_16 : decode cX11_item 16 = .ok (.getfield 282, 3) := by decide +kernel
theorem dX11_item_19 : decode cX11_item 19 = .ok (.iconst (-1), 1) := by decide +kernel
theorem dX11_item_20 : decode cX11_item 20 = .ok (.if_icmp .ne 6, 3) := by decide +kernel
theorem dX11_item_23 : decode cX11_item 23 = .ok (.bipush (-11), 2) := by decide +kernel
theorem dX11_item_25 : decode cX11_item 25 = .ok (.ireturn, 1) := by decide +kernel
theorem dX11_item_26 : decode cX11_item 26 = .ok (.iload_n 2, 1) := by decide +kernel
theorem dX11_item_27 : decode cX11_item 27 = .ok (.ifCond .lt 12, 3) := by decide +kernel
theorem dX11_item_30 : decode cX11_item 30 = .ok (.iload_n 2, 1) := by decide +kernel
theorem dX11_item_31 : decode cX11_item 31 = .ok (.aload 4, 2) := by decide +kernel
theorem dX11_item_33 : decode cX11_item 33 = .ok (.getfield 285, 3) := by decide +kernel
theorem dX11_item_36 : decode cX11_item 36 = .ok (.if_icmp .lt 6, 3) := by decide +kernel
theorem dX11_item_39 : decode cX11_item 39 = .ok (.bipush (-13), 2) := by decide +kernel
theorem dX11_item_41 : decode cX11_item 41 = .ok (.ireturn, 1) := by decide +kernel
theorem dX11_item_42 : decode cX11_item 42 = .ok (.aload 4, 2) := by decide +kernel
theorem dX11_item_44 : decode cX11_item 44 = .ok (.getfield 286, 3) := by decide +kernel
theorem dX11_item_47 : decode cX11_item 47 = .ok (.iload_n 2, 1) := by decide +kernel
theorem dX11_item_48 : decode cX11_item 48 = .ok (.aload 4, 2) := by decide +kernel
theorem dX11_item_50 : decode cX11_item 50 = .ok (.iload_n 3, 1) := by decide +kernel
theorem dX11_item_51 : decode cX11_item 51 = .ok (.invokevirtual 333, 3) := by decide +kernel
theorem dX11_item_54 : decode cX11_item 54 = .ok (.iastore, 1) := by decide +kernel
theorem dX11_item_55 : decode cX11_item 55 = .ok (.iconst 1, 1) := by decide +kernel
theorem dX11_item_56 : decode cX11_item 56 = .ok (.ireturn, 1) := by decide +kernel
theorem dX11_read_0 : decode cX11_read 0 = .ok (.aload_n 0, 1) := by decide +kernel
theorem dX11_read_1 : decode cX11_read 1 = .ok (.iload_n 1, 1) := by decide +kernel
theorem dX11_read_2 : decode cX11_read 2 = .ok (.invokevirtual 278, 3) := by decide +kernel
theorem dX11_read_5 : decode cX11_read 5 = .ok (.astore_n 3, 1) := by decide +kernel
theorem dX11_read_6 : decode cX11_read 6 = .ok (.aload_n 3, 1) := by decide +kernel
theorem dX11_read_7 : decode cX11_read 7 = .ok (.ifnull 15, 3) := by decide +kernel
theorem dX11_read_10 : decode cX11_read 10 = .ok (.iload_n 2, 1) := by decide +kernel
theorem dX11_read_11 : decode cX11_read 11 = .ok (.ifCond .lt 11, 3) := by decide +kernel
theorem dX11_read_14 : decode cX11_read 14 = .ok (.iload_n 2, 1) := by decide +kernel
theorem dX11_read_15 : decode cX11_read 15 = .ok (.aload_n 3, 1) := by decide +kernel
theorem dX11_read_16 : decode cX11_read 16 = .ok (.getfield 285, 3) := by decide +kernel
theorem dX11_read_19 : decode cX11_read 19 = .ok (.if_icmp .lt 7, 3) := by decide +kernel
theorem dX11_read_22 : decode cX11_read 22 = .ok (.ldc_w 336, 3) := by decide +kernel
theorem dX11_read_25 : decode cX11_read 25 = .ok (.ireturn, 1) := by decide +kernel
theorem dX11_read_26 : decode cX11_read 26 = .ok (.aload_n 3, 1) := by decide +kernel
theorem dX11_read_27 : decode cX11_read 27 = .ok (.getfield 286, 3) := by decide +kernel
theorem dX11_read_30 : decode cX11_read 30 = .ok (.iload_n 2, 1) := by decide +kernel
theorem dX11_read_31 : decode cX11_read 31 = .ok (.iaload, 1) := by decide +kernel
theorem dX11_read_32 : decode cX11_read 32 = .ok (.ireturn, 1) := by decide +kernel
theorem dX11_shift_0 : decode cX11_shift 0 = .ok (.aload_n 0, 1) := by decide +kernel
theorem dX11_shift_1 : decode cX11_shift 1 = .ok (.iload_n 1, 1) := by decide +kernel
theorem dX11_shift_2 : decode cX11_shift 2 = .ok (.invokevirtual 278, 3) := by decide +kernel
theorem dX11_shift_5 : decode cX11_shift 5 = .ok (.astore 6, 2) := by decide +kernel
theorem dX11_shift_7 : decode cX11_shift 7 = .ok (.aload_n 0, 1) := by decide +kernel
theorem dX11_shift_8 : decode cX11_shift 8 = .ok (.iload_n 3, 1) := by decide +kernel
theorem dX11_shift_9 : decode cX11_shift 9 = .ok (.invokevirtual 278, 3) := by decide +kernel
theorem dX11_shift_12 : decode cX11_shift 12 = .ok (.astore 7, 2) := by decide +kernel
theorem dX11_shift_14 : decode cX11_shift 14 = .ok (.aload 6, 2) := by decide +kernel
theorem dX11_shift_16 : decode cX11_shift 16 = .ok (.ifnull 8, 3) := by decide +kernel
theorem dX11_shift_19 : decode cX11_shift 19 = .ok (.aload 7, 2) := by decide +kernel
theorem dX11_shift_21 : decode cX11_shift 21 = .ok (.ifnonnull 5, 3) := by decide +kernel
theorem dX11_shift_24 : decode cX11_shift 24 = .ok (.iconst (-1), 1) := by decide +kernel
theorem dX11_shift_25 : decode cX11_shift 25 = .ok (.ireturn, 1) := by decide +kernel
theorem dX11_shift_26 : decode cX11_shift 26 = .ok (.aload 6, 2) := by decide +kernel
theorem dX11_shift_28 : decode cX11_shift 28 = .ok (.getfield 282, 3) := by decide +kernel
theorem dX11_shift_31 : decode cX11_shift 31 = .ok (.iconst (-1), 1) := by decide +kernel
theorem dX11_shift_32 : decode cX11_shift 32 = .ok (.if_icmp .eq 12, 3) := by decide +kernel
theorem dX11_shift_35 : decode cX11_shift 35 = .ok (.aload 7, 2) := by decide +kernel
theorem dX11_shift_37 : decode cX11_shift 37 = .ok (.getfield 282, 3) := by decide +kernel
theorem dX11_shift_40 : decode cX11_shift 40 = .ok (.iconst (-1), 1) := by decide +kernel
theorem dX11_shift_41 : decode cX11_shift 41 = .ok (.if_icmp .ne 6, 3) := by decide +kernel
theorem dX11_shift_44 : decode cX11_shift 44 = .ok (.bipush (-11), 2) := by decide +kernel
theorem dX11_shift_46 : decode cX11_shift 46 = .ok (.ireturn, 1) := by decide +kernel
theorem dX11_shift_47 : decode cX11_shift 47 = .ok (.aload 6, 2) := by decide +kernel
theorem dX11_shift_49 : decode cX11_shift 49 = .ok (.getfield 282, 3) := by decide +kernel
theorem dX11_shift_52 : decode cX11_shift 52 = .ok (.aload 7, 2) := by decide +kernel
theorem dX11_shift_54 : decode cX11_shift 54 = .ok (.getfield 282, 3) := by decide +kernel
theorem dX11_shift_57 : decode cX11_shift 57 = .ok (.if_icmp .eq 6, 3) := by decide +kernel
theorem dX11_shift_60 : decode cX11_shift 60 = .ok (.bipush (-12), 2) := by decide +kernel
theorem dX11_shift_62 : decode cX11_shift 62 = .ok (.ireturn, 1) := by decide +kernel
theorem dX11_shift_63 : decode cX11_shift 63 = .ok (.aload 6, 2) := by decide +kernel
theorem dX11_shift_65 : decode cX11_shift 65 = .ok (.iload_n 2, 1) := by decide +kernel
theorem dX11_shift_66 : decode cX11_shift 66 = .ok (.iload 5, 2) := by decide +kernel
theorem dX11_shift_68 : decode cX11_shift 68 = .ok (.invokevirtual 337, 3) := by decide +kernel
theorem dX11_shift_71 : decode cX11_shift 71 = .ok (.ifCond .eq 15, 3) := by decide +kernel
theorem dX11_shift_74 : decode cX11_shift 74 = .ok (.aload 7, 2) := by decide +kernel
theorem dX11_shift_76 : decode cX11_shift 76 = .ok (.iload 4, 2) := by decide +kernel
theorem dX11_shift_78 : decode cX11_shift 78 = .ok (.iload 5, 2) := by decide +kernel
theorem dX11_shift_80 : decode cX11_shift 80 = .ok (.invokevirtual 337, 3) := by decide +kernel
theorem dX11_shift_83 : decode cX11_shift 83 = .ok (.ifCond .ne 6, 3) := by decide +kernel
theorem dX11_shift_86 : decode cX11_shift 86 = .ok (.bipush (-13), 2) := by decide +kernel
theorem dX11_shift_88 : decode cX11_shift 88 = .ok (.ireturn, 1) := by decide +kernel
theorem dX11_shift_89 : decode cX11_shift 89 = .ok (.aload 6, 2) := by decide +kernel
theorem dX11_shift_91 : decode cX11_shift 91 = .ok (.getfield 286, 3) := by decide +kernel
theorem dX11_shift_94 : decode cX11_shift 94 = .ok (.iload_n 2, 1) := by decide +kernel
theorem dX11_shift_95 : decode cX11_shift 95 = .ok (.aload 7, 2) := by decide +kernel
theorem dX11_shift_97 : decode cX11_shift 97 = .ok (.getfield 286, 3) := by decide +kernel
theorem dX11_shift_100 : decode cX11_shift 100 = .ok (.iload 4, 2) := by decide +kernel
theorem dX11_shift_102 : decode cX11_shift 102 = .ok (.iload 5, 2) := by decide +kernel
theorem dX11_shift_104 : decode cX11_shift 104 = .ok (.invokestatic 340, 3) := by decide +kernel
theorem dX11_shift_107 : decode cX11_shift 107 = .ok (.iload 5, 2) := by decide +kernel
theorem dX11_shift_109 : decode cX11_shift 109 = .ok (.ireturn, 1) := by decide +kernel
theorem dX11_isPlace_0 : decode cX11_isPlace 0 = .ok (.iload_n 1, 1) := by decide +kernel
theorem dX11_isPlace_1 : decode cX11_isPlace 1 = .ok (.ifCond .lt 18, 3) := by decide +kernel
theorem dX11_isPlace_4 : decode cX11_isPlace 4 = .ok (.iload_n 1, 1) := by decide +kernel
theorem dX11_isPlace_5 : decode cX11_isPlace 5 = .ok (.aload_n 0, 1) := by decide +kernel
theorem dX11_isPlace_6 : decode cX11_isPlace 6 = .ok (.getfield 36, 3) := by decide +kernel
theorem dX11_isPlace_9 : decode cX11_isPlace 9 = .ok (.getfield 157, 3) := by decide +kernel
theorem dX11_isPlace_12 : decode cX11_isPlace 12 = .ok (.if_icmp .ge 7, 3) := by decide +kernel
theorem dX11_isPlace_15 : decode cX11_isPlace 15 = .ok (.iconst 1, 1) := by decide +kernel
theorem dX11_isPlace_16 : decode cX11_isPlace 16 = .ok (.goto 4, 3) := by decide +kernel
theorem dX11_isPlace_19 : decode cX11_isPlace 19 = .ok (.iconst 0, 1) := by decide +kernel
theorem dX11_isPlace_20 : decode cX11_isPlace 20 = .ok (.ireturn, 1) := by decide +kernel
theorem dX11_behind_0 : decode cX11_behind 0 = .ok (.iload_n 0, 1) := by decide +kernel
theorem dX11_behind_1 : decode cX11_behind 1 = .ok (.iconst 1, 1) := by decide +kernel
theorem dX11_behind_2 : decode cX11_behind 2 = .ok (.iadd, 1) := by decide +kernel
theorem dX11_behind_3 : decode cX11_behind 3 = .ok (.iload_n 1, 1) := by decide +kernel
theorem dX11_behind_4 : decode cX11_behind 4 = .ok (.if_icmp .ge 9, 3) := by decide +kernel
theorem dX11_behind_7 : decode cX11_behind 7 = .ok (.iload_n 0, 1) := by decide +kernel
theorem dX11_behind_8 : decode cX11_behind 8 = .ok (.iconst 1, 1) := by decide +kernel
theorem dX11_behind_9 : decode cX11_behind 9 = .ok (.iadd, 1) := by decide +kernel
theorem dX11_behind_10 : decode cX11_behind 10 = .ok (.goto 4, 3) := by decide +kernel
theorem dX11_behind_13 : decode cX11_behind 13 = .ok (.iconst 0, 1) := by decide +kernel
theorem dX11_behind_14 : decode cX11_behind 14 = .ok (.ireturn, 1) := by decide +kernel
theorem dX11_ahead_0 : decode cX11_ahead 0 = .ok (.iload_n 0, 1) := by decide +kernel
theorem dX11_ahead_1 : decode cX11_ahead 1 = .ok (.ifCond .le 9, 3) := by decide +kernel
theorem dX11_ahead_4 : decode cX11_ahead 4 = .ok (.iload_n 0, 1) := by decide +kernel
theorem dX11_ahead_5 : decode cX11_ahead 5 = .ok (.iconst 1, 1) := by decide +kernel
theorem dX11_ahead_6 : decode cX11_ahead 6 = .ok (.isub, 1) := by decide +kernel
theorem dX11_ahead_7 : decode cX11_ahead 7 = .ok (.goto 6, 3) := by decide +kernel
theorem dX11_ahead_10 : decode cX11_ahead 10 = .ok (.iload_n 1, 1) := by decide +kernel
theorem dX11_ahead_11 : decode cX11_ahead 11 = .ok (.iconst 1, 1) := by decide +kernel
theorem dX11_ahead_12 : decode cX11_ahead 12 = .ok (.isub, 1) := by decide +kernel
theorem dX11_ahead_13 : decode cX11_ahead 13 = .ok (.ireturn, 1) := by decide +kernel
theorem dX11_isColour_0 : decode cX11_isColour 0 = .ok (.iload_n 0, 1) := by decide +kernel
theorem dX11_isColour_1 : decode cX11_isColour 1 = .ok (.ifCond .lt 13, 3) := by decide +kernel
theorem dX11_isColour_4 : decode cX11_isColour 4 = .ok (.iload_n 0, 1) := by decide +kernel
theorem dX11_isColour_5 : decode cX11_isColour 5 = .ok (.bipush 8, 2) := by decide +kernel
theorem dX11_isColour_7 : decode cX11_isColour 7 = .ok (.if_icmp .ge 7, 3) := by decide +kernel
theorem dX11_isColour_10 : decode cX11_isColour 10 = .ok (.iconst 1, 1) := by decide +kernel
theorem dX11_isColour_11 : decode cX11_isColour 11 = .ok (.goto 4, 3) := by decide +kernel
theorem dX11_isColour_14 : decode cX11_isColour 14 = .ok (.iconst 0, 1) := by decide +kernel
theorem dX11_isColour_15 : decode cX11_isColour 15 = .ok (.ireturn, 1) := by decide +kernel
theorem dX11_personAt_0 : decode cX11_personAt 0 = .ok (.iload_n 1, 1) := by decide +kernel
theorem dX11_personAt_1 : decode cX11_personAt 1 = .ok (.ifCond .lt 20, 3) := by decide +kernel
theorem dX11_personAt_4 : decode cX11_personAt 4 = .ok (.iload_n 1, 1) := by decide +kernel
theorem dX11_personAt_5 : decode cX11_personAt 5 = .ok (.aload_n 0, 1) := by decide +kernel
theorem dX11_personAt_6 : decode cX11_personAt 6 = .ok (.getfield 15, 3) := by decide +kernel
theorem dX11_personAt_9 : decode cX11_personAt 9 = .ok (.if_icmp .ge 12, 3) := by decide +kernel
theorem dX11_personAt_12 : decode cX11_personAt 12 = .ok (.aload_n 0, 1) := by decide +kernel
theorem dX11_personAt_13 : decode cX11_personAt 13 = .ok (.getfield 11, 3) := by decide +kernel
theorem dX11_personAt_16 : decode cX11_personAt 16 = .ok (.iload_n 1, 1) := by decide +kernel
theorem dX11_personAt_17 : decode cX11_personAt 17 = .ok (.aaload, 1) := by decide +kernel
theorem dX11_personAt_18 : decode cX11_personAt 18 = .ok (.goto 4, 3) := by decide +kernel
theorem dX11_personAt_21 : decode cX11_personAt 21 = .ok (.aconst_null, 1) := by decide +kernel
theorem dX11_personAt_22 : decode cX11_personAt 22 = .ok (.areturn, 1) := by decide +kernel
theorem dX11_figureOrDance_0 : decode cX11_figureOrDance 0 = .ok (.iload_n 1, 1) := by decide +kernel
theorem dX11_figureOrDance_1 : decode cX11_figureOrDance 1 = .ok (.iconst (-1), 1) := by decide +kernel
theorem dX11_figureOrDance_2 : decode cX11_figureOrDance 2 = .ok (.if_icmp .ne 10, 3) := by decide +kernel
theorem dX11_figureOrDance_5 : decode cX11_figureOrDance 5 = .ok (.aload_n 0, 1) := by decide +kernel
theorem dX11_figureOrDance_6 : decode cX11_figureOrDance 6 = .ok (.getfield 49, 3) := by decide +kernel
theorem dX11_figureOrDance_9 : decode cX11_figureOrDance 9 = .ok (.goto 11, 3) := by decide +kernel
theorem dX11_figureOrDance_12 : decode cX11_figureOrDance 12 = .ok (.aload_n 0, 1) := by decide +kernel
theorem dX11_figureOrDance_13 : decode cX11_figureOrDance 13 = .ok (.getfield 79, 3) := by decide +kernel
theorem dX11_figureOrDance_16 : decode cX11_figureOrDance 16 = .ok (.iload_n 1, 1) := by decide +kernel
theorem dX11_figureOrDance_17 : decode cX11_figureOrDance 17 = .ok (.invokevirtual 264, 3) := by decide +kernel
theorem dX11_figureOrDance_20 : decode cX11_figureOrDance 20 = .ok (.areturn, 1) := by decide +kernel
theorem dX11_tapeAt_0 : decode cX11_tapeAt 0 = .ok (.iload_n 1, 1) := by decide +kernel
theorem dX11_tapeAt_1 : decode cX11_tapeAt 1 = .ok (.ifCond .lt 18, 3) := by decide +kernel
theorem dX11_tapeAt_4 : decode cX11_tapeAt 4 = .ok (.iload_n 1, 1) := by decide +kernel
theorem dX11_tapeAt_5 : decode cX11_tapeAt 5 = .ok (.bipush 6, 2) := by decide +kernel
theorem dX11_tapeAt_7 : decode cX11_tapeAt 7 = .ok (.if_icmp .ge 12, 3) := by decide +kernel
theorem dX11_tapeAt_10 : decode cX11_tapeAt 10 = .ok (.aload_n 0, 1) := by decide +kernel
theorem dX11_tapeAt_11 : decode cX11_tapeAt 11 = .ok (.getfield 109, 3) := by decide +kernel
theorem dX11_tapeAt_14 : decode cX11_tapeAt 14 = .ok (.iload_n 1, 1) := by decide +kernel
theorem dX11_tapeAt_15 : decode cX11_tapeAt 15 = .ok (.aaload, 1) := by decide +kernel
theorem dX11_tapeAt_16 : decode cX11_tapeAt 16 = .ok (.goto 4, 3) := by decide +kernel
theorem dX11_tapeAt_19 : decode cX11_tapeAt 19 = .ok (.aconst_null, 1) := by decide +kernel
theorem dX11_tapeAt_20 : decode cX11_tapeAt 20 = .ok (.areturn, 1) := by decide +kernel
theorem dX11_standsInRing_0 : decode cX11_standsInRing 0 = .ok (.iconst 0, 1) := by decide +kernel
theorem dX11_standsInRing_1 : decode cX11_standsInRing 1 = .ok (.istore_n 2, 1) := by decide +kernel
theorem dX11_standsInRing_2 : decode cX11_standsInRing 2 = .ok (.iload_n 2, 1) := by decide +kernel
theorem dX11_standsInRing_3 : decode cX11_standsInRing 3 = .ok (.aload_n 0, 1) := by decide +kernel
theorem dX11_standsInRing_4 : decode cX11_standsInRing 4 = .ok (.getfield 36, 3) := by decide +kernel
theorem dX11_standsInRing_7 : decode cX11_standsInRing 7 = .ok (.getfield 157, 3) := by decide +kernel
theorem dX11_standsInRing_10 : decode cX11_standsInRing 10 = .ok (.if_icmp .ge 21, 3) := by decide +kernel
theorem dX11_standsInRing_13 : decode cX11_standsInRing 13 = .ok (.aload_n 0, 1) := by decide +kernel
theorem dX11_standsInRing_14 : decode cX11_standsInRing 14 = .ok (.getfield 26, 3) := by decide +kernel
theorem dX11_standsInRing_17 : decode cX11_standsInRing 17 = .ok (.iload_n 2, 1) := by decide +kernel
theorem dX11_standsInRing_18 : decode cX11_standsInRing 18 = .ok (.iaload, 1) := by decide +kernel
theorem dX11_standsInRing_19 : decode cX11_standsInRing 19 = .ok (.iload_n 1, 1) := by decide +kernel
theorem dX11_standsInRing_20 : decode cX11_standsInRing 20 = .ok (.if_icmp .ne 5, 3) := by decide +kernel
theorem dX11_standsInRing_23 : decode cX11_standsInRing 23 = .ok (.iconst 1, 1) := by decide +kernel
theorem dX11_standsInRing_24 : decode cX11_standsInRing 24 = .ok (.ireturn, 1) := by decide +kernel
theorem dX11_standsInRing_25 : decode cX11_standsInRing 25 = .ok (.iinc 2 1, 3) := by decide +kernel
theorem dX11_standsInRing_28 : decode cX11_standsInRing 28 = .ok (.goto (-26), 3) := by decide +kernel
theorem dX11_standsInRing_31 : decode cX11_standsInRing 31 = .ok (.iconst 0, 1) := by decide +kernel
theorem dX11_standsInRing_32 : decode cX11_standsInRing 32 = .ok (.ireturn, 1) := by decide +kernel
theorem dX11_doStep_0 : decode cX11_doStep 0 = .ok (.aload_n 0, 1) := by decide +kernel
theorem dX11_doStep_1 : decode cX11_doStep 1 = .ok (.getfield 40, 3) := by decide +kernel
theorem dX11_doStep_4 : decode cX11_doStep 4 = .ok (.ifCond .ne 6, 3) := by decide +kernel
theorem dX11_doStep_7 : decode cX11_doStep 7 = .ok (.bipush (-3), 2) := by decide +kernel
theorem dX11_doStep_9 : decode cX11_doStep 9 = .ok (.ireturn, 1) := by decide +kernel
theorem dX11_doStep_10 : decode cX11_doStep 10 = .ok (.aload_n 0, 1) := by decide +kernel
theorem dX11_doStep_11 : decode cX11_doStep 11 = .ok (.getfield 36, 3) := by decide +kernel
theorem dX11_doStep_14 : decode cX11_doStep 14 = .ok (.iload_n 1, 1) := by decide +kernel
theorem dX11_doStep_15 : decode cX11_doStep 15 = .ok (.invokevirtual 346, 3) := by decide +kernel
theorem dX11_doStep_18 : decode cX11_doStep 18 = .ok (.istore_n 2, 1) := by decide +kernel
theorem dX11_doStep_19 : decode cX11_doStep 19 = .ok (.iload_n 2, 1) := by decide +kernel
theorem dX11_doStep_20 : decode cX11_doStep 20 = .ok (.ifCond .eq 5, 3) := by decide +kernel
theorem dX11_doStep_23 : decode cX11_doStep 23 = .ok (.iload_n 2, 1) := by decide +kernel
theorem dX11_doStep_24 : decode cX11_doStep 24 = .ok (.ireturn, 1) := by decide +kernel
theorem dX11_doStep_25 : decode cX11_doStep 25 = .ok (.iload_n 1, 1) := by decide +kernel
theorem dX11_doStep_26 : decode cX11_doStep 26 = .ok (.bipush 100, 2) := by decide +kernel
theorem dX11_doStep_28 : decode cX11_doStep 28 = .ok (.if_icmp .lt 21, 3) := by decide +kernel
theorem dX11_doStep_31 : decode cX11_doStep 31 = .ok (.aload_n 0, 1) := by decide +kernel
theorem dX11_doStep_32 : decode cX11_doStep 32 = .ok (.getfield 56, 3) := by decide +kernel
theorem dX11_doStep_35 : decode cX11_doStep 35 = .ok (.aload_n 0, 1) := by decide +kernel
theorem dX11_doStep_36 : decode cX11_doStep 36 = .ok (.getfield 36, 3) := by decide +kernel
theorem dX11_doStep_39 : decode cX11_doStep 39 = .ok (.invokevirtual 348, 3) := by decide +kernel
theorem dX11_doStep_42 : decode cX11_doStep 42 = .ok (.aload_n 0, 1) := by decide +kernel
theorem dX11_doStep_43 : decode cX11_doStep 43 = .ok (.getfield 36, 3) := by decide +kernel
theorem dX11_doStep_46 : decode cX11_doStep 46 = .ok (.invokevirtual 350, 3) := by decide +kernel
theorem dX11_doStep_49 : decode cX11_doStep 49 = .ok (.aload_n 0, 1) := by decide +kernel
theorem dX11_doStep_50 : decode cX11_doStep 50 = .ok (.getfield 49, 3) := by decide +kernel
theorem dX11_doStep_53 : decode cX11_doStep 53 = .ok (.iload_n 1, 1) := by decide +kernel
theorem dX11_doStep_54 : decode cX11_doStep 54 = .ok (.invokevirtual 353, 3) := by decide +kernel
theorem dX11_doStep_57 : decode cX11_doStep 57 = .ok (.pop, 1) := by decide +kernel
theorem dX11_doStep_58 : decode cX11_doStep 58 = .ok (.aload_n 0, 1) := by decide +kernel
theorem dX11_doStep_59 : decode cX11_doStep 59 = .ok (.getfield 49, 3) := by decide +kernel
theorem dX11_doStep_62 : decode cX11_doStep 62 = .ok (.getfield 174, 3) := by decide +kernel
theorem dX11_doStep_65 : decode cX11_doStep 65 = .ok (.ireturn, 1) := by decide +kernel
theorem dX11_weaves_0 : decode cX11_weaves 0 = .ok (.aload_n 1, 1) := by decide +kernel
theorem dX11_weaves_1 : decode cX11_weaves 1 = .ok (.iload_n 2, 1) := by decide +kernel
theorem dX11_weaves_2 : decode cX11_weaves 2 = .ok (.invokevirtual 346, 3) := by decide +kernel
theorem dX11_weaves_5 : decode cX11_weaves 5 = .ok (.ifCond .eq 5, 3) := by decide +kernel
theorem dX11_weaves_8 : decode cX11_weaves 8 = .ok (.iconst 0, 1) := by decide +kernel
theorem dX11_weaves_9 : decode cX11_weaves 9 = .ok (.ireturn, 1) := by decide +kernel
theorem dX11_weaves_10 : decode cX11_weaves 10 = .ok (.iload_n 2, 1) := by decide +kernel
theorem dX11_weaves_11 : decode cX11_weaves 11 = .ok (.bipush 100, 2) := by decide +kernel
theorem dX11_weaves_13 : decode cX11_weaves 13 = .ok (.if_icmp .ge 5, 3) := by decide +kernel
theorem dX11_weaves_16 : decode cX11_weaves 16 = .ok (.iconst 1, 1) := by decide +kernel
theorem dX11_weaves_17 : decode cX11_weaves 17 = .ok (.ireturn, 1) := by decide +kernel
theorem dX11_weaves_18 : decode cX11_weaves 18 = .ok (.aload_n 0, 1) := by decide +kernel
theorem dX11_weaves_19 : decode cX11_weaves 19 = .ok (.getfield 56, 3) := by decide +kernel
theorem dX11_weaves_22 : decode cX11_weaves 22 = .ok (.aload_n 1, 1) := by decide +kernel
theorem dX11_weaves_23 : decode cX11_weaves 23 = .ok (.invokevirtual 356, 3) := by decide +kernel
theorem dX11_weaves_26 : decode cX11_weaves 26 = .ok (.istore_n 3, 1) := by decide +kernel
theorem dX11_weaves_27 : decode cX11_weaves 27 = .ok (.aload_n 1, 1) := by decide +kernel
theorem dX11_weaves_28 : decode cX11_weaves 28 = .ok (.invokevirtual 350, 3) := by decide +kernel
theorem dX11_weaves_31 : decode cX11_weaves 31 = .ok (.iload_n 3, 1) := by decide +kernel
theorem dX11_weaves_32 : decode cX11_weaves 32 = .ok (.ireturn, 1) := by decide +kernel
theorem dX11_weavesOn_0 : decode cX11_weavesOn 0 = .ok (.iload_n 3, 1) := by decide +kernel
theorem dX11_weavesOn_1 : decode cX11_weavesOn 1 = .ok (.istore 4, 2) := by decide +kernel
theorem dX11_weavesOn_3 : decode cX11_weavesOn 3 = .ok (.iload 4, 2) := by decide +kernel
theorem dX11_weavesOn_5 : decode cX11_weavesOn 5 = .ok (.aload_n 2, 1) := by decide +kernel
theorem dX11_weavesOn_6 : decode cX11_weavesOn 6 = .ok (.getfield 174, 3) := by decide +kernel
theorem dX11_weavesOn_9 : decode cX11_weavesOn 9 = .ok (.if_icmp .ge 26, 3) := by decide +kernel
theorem dX11_weavesOn_12 : decode cX11_weavesOn 12 = .ok (.aload_n 0, 1) := by decide +kernel
theorem dX11_weavesOn_13 : decode cX11_weavesOn 13 = .ok (.aload_n 1, 1) := by decide +kernel
theorem dX11_weavesOn_14 : decode cX11_weavesOn 14 = .ok (.aload_n 2, 1) := by decide +kernel
theorem dX11_weavesOn_15 : decode cX11_weavesOn 15 = .ok (.getfield 267, 3) := by decide +kernel
theorem dX11_weavesOn_18 : decode cX11_weavesOn 18 = .ok (.iload 4, 2) := by decide +kernel
theorem dX11_weavesOn_20 : decode cX11_weavesOn 20 = .ok (.iaload, 1) := by decide +kernel
theorem dX11_weavesOn_21 : decode cX11_weavesOn 21 = .ok (.invokevirtual 360, 3) := by decide +kernel
theorem dX11_weavesOn_24 : decode cX11_weavesOn 24 = .ok (.ifCond .ne 5, 3) := by decide +kernel
theorem dX11_weavesOn_27 : decode cX11_weavesOn 27 = .ok (.iconst 0, 1) := by decide +kernel
theorem dX11_weavesOn_28 : decode cX11_weavesOn 28 = .ok (.ireturn, 1) := by decide +kernel
theorem dX11_weavesOn_29 : decode cX11_weavesOn 29 = .ok (.iinc 4 1, 3) := by decide +kernel
theorem dX11_weavesOn_32 : decode cX11_weavesOn 32 = .ok (.goto (-29), 3) := by decide +kernel
theorem dX11_weavesOn_35 : decode cX11_weavesOn 35 = .ok (.aload_n 1, 1) := by decide +kernel
theorem dX11_weavesOn_36 : decode cX11_weavesOn 36 = .ok (.getfield 364, 3) := by decide +kernel
theorem dX11_weavesOn_39 : decode cX11_weavesOn 39 = .ok (.aload_n 0, 1) := by decide +kernel
theorem dX11_weavesOn_40 : decode cX11_weavesOn 40 = .ok (.getfield 56, 3) := by decide +kernel
theorem dX11_weavesOn_43 : decode cX11_weavesOn 43 = .ok (.getfield 188, 3) := by decide +kernel
theorem dX11_weavesOn_46 : decode cX11_weavesOn 46 = .ok (.if_icmp .ne 7, 3) := by decide +kernel
theorem dX11_weavesOn_49 : decode cX11_weavesOn 49 = .ok (.iconst 1, 1) := by decide +kernel
theorem dX11_weavesOn_50 : decode cX11_weavesOn 50 = .ok (.goto 4, 3) := by decide +kernel
theorem dX11_weavesOn_53 : decode cX11_weavesOn 53 = .ok (.iconst 0, 1) := by decide +kernel
theorem dX11_weavesOn_54 : decode cX11_weavesOn 54 = .ok (.ireturn, 1) := by decide +kernel
theorem dX11_weavesSlipped_0 : decode cX11_weavesSlipped 0 = .ok (.iload_n 3, 1) := by decide +kernel
theorem dX11_weavesSlipped_1 : decode cX11_weavesSlipped 1 = .ok (.lookupswitch 38 #[(0, 27), (1, 29)], 27) := by decide +kernel
theorem dX11_weavesSlipped_28 : decode cX11_weavesSlipped 28 = .ok (.iconst 1, 1) := by decide +kernel
theorem dX11_weavesSlipped_29 : decode cX11_weavesSlipped 29 = .ok (.ireturn, 1) := by decide +kernel
theorem dX11_weavesSlipped_30 : decode cX11_weavesSlipped 30 = .ok (.aload_n 0, 1) := by decide +kernel
theorem dX11_weavesSlipped_31 : decode cX11_weavesSlipped 31 = .ok (.aload_n 1, 1) := by decide +kernel
theorem dX11_weavesSlipped_32 : decode cX11_weavesSlipped 32 = .ok (.iload_n 2, 1) := by decide +kernel
theorem dX11_weavesSlipped_33 : decode cX11_weavesSlipped 33 = .ok (.iconst 1, 1) := by decide +kernel
theorem dX11_weavesSlipped_34 : decode cX11_weavesSlipped 34 = .ok (.ixor, 1) := by decide +kernel
theorem dX11_weavesSlipped_35 : decode cX11_weavesSlipped 35 = .ok (.invokevirtual 360, 3) := by decide +kernel
theorem dX11_weavesSlipped_38 : decode cX11_weavesSlipped 38 = .ok (.ireturn, 1) := by decide +kernel
theorem dX11_weavesSlipped_39 : decode cX11_weavesSlipped 39 = .ok (.aload_n 0, 1) := by decide +kernel
theorem dX11_weavesSlipped_40 : decode cX11_weavesSlipped 40 = .ok (.aload_n 1, 1) := by decide +kernel
theorem dX11_weavesSlipped_41 : decode cX11_weavesSlipped 41 = .ok (.iload_n 2, 1) := by decide +kernel
theorem dX11_weavesSlipped_42 : decode cX11_weavesSlipped 42 = .ok (.invokevirtual 360, 3) := by decide +kernel
theorem dX11_weavesSlipped_45 : decode cX11_weavesSlipped 45 = .ok (.ifCond .eq 16, 3) := by decide +kernel
theorem dX11_weavesSlipped_48 : decode cX11_weavesSlipped 48 = .ok (.aload_n 0, 1) := by decide +kernel
theorem dX11_weavesSlipped_49 : decode cX11_weavesSlipped 49 = .ok (.aload_n 1, 1) := by decide +kernel
theorem dX11_weavesSlipped_50 : decode cX11_weavesSlipped 50 = .ok (.iload_n 2, 1) := by decide +kernel
theorem dX11_weavesSlipped_51 : decode cX11_weavesSlipped 51 = .ok (.invokevirtual 360, 3) := by decide +kernel
theorem dX11_weavesSlipped_54 : decode cX11_weavesSlipped 54 = .ok (.ifCond .eq 7, 3) := by decide +kernel
theorem dX11_weavesSlipped_57 : decode cX11_weavesSlipped 57 = .ok (.iconst 1, 1) := by decide +kernel
theorem dX11_weavesSlipped_58 : decode cX11_weavesSlipped 58 = .ok (.goto 4, 3) := by decide +kernel
theorem dX11_weavesSlipped_61 : decode cX11_weavesSlipped 61 = .ok (.iconst 0, 1) := by decide +kernel
theorem dX11_weavesSlipped_62 : decode cX11_weavesSlipped 62 = .ok (.ireturn, 1) := by decide +kernel
theorem dX11_explained_0 : decode cX11_explained 0 = .ok (.aload_n 0, 1) := by decide +kernel
theorem dX11_explained_1 : decode cX11_explained 1 = .ok (.getfield 70, 3) := by decide +kernel
theorem dX11_explained_4 : decode cX11_explained 4 = .ok (.aload_n 0, 1) := by decide +kernel
theorem dX11_explained_5 : decode cX11_explained 5 = .ok (.getfield 67, 3) := by decide +kernel
theorem dX11_explained_8 : decode cX11_explained 8 = .ok (.invokevirtual 163, 3) := by decide +kernel
theorem dX11_explained_11 : decode cX11_explained 11 = .ok (.aload_n 1, 1) := by decide +kernel
theorem dX11_explained_12 : decode cX11_explained 12 = .ok (.invokevirtual 365, 3) := by decide +kernel
theorem dX11_explained_15 : decode cX11_explained 15 = .ok (.istore_n 3, 1) := by decide +kernel
theorem dX11_explained_16 : decode cX11_explained 16 = .ok (.iconst 0, 1) := by decide +kernel
theorem dX11_explained_17 : decode cX11_explained 17 = .ok (.istore 4, 2) := by decide +kernel
theorem dX11_explained_19 : decode cX11_explained 19 = .ok (.iconst 0, 1) := by decide +kernel
theorem dX11_explained_20 : decode cX11_explained 20 = .ok (.istore 5, 2) := by decide +kernel
theorem dX11_explained_22 : decode cX11_explained 22 = .ok (.iload 5, 2) := by decide +kernel
theorem dX11_explained_24 : decode cX11_explained 24 = .ok (.aload_n 1, 1) := by decide +kernel
theorem dX11_explained_25 : decode cX11_explained 25 = .ok (.getfield 174, 3) := by decide +kernel
theorem dX11_explained_28 : decode cX11_explained 28 = .ok (.if_icmp .ge 143, 3) := by decide +kernel
theorem dX11_explained_31 : decode cX11_explained 31 = .ok (.aload_n 1, 1) := by decide +kernel
theorem dX11_explained_32 : decode cX11_explained 32 = .ok (.getfield 267, 3) := by decide +kernel
theorem dX11_explained_35 : decode cX11_explained 35 = .ok (.iload 5, 2) := by decide +kernel
theorem dX11_explained_37 : decode cX11_explained 37 = .ok (.iaload, 1) := by decide +kernel
theorem dX11_explained_38 : decode cX11_explained 38 = .ok (.istore 6, 2) := by decide +kernel
theorem dX11_explained_40 : decode cX11_explained 40 = .ok (.iload_n 3, 1) := by decide +kernel
theorem dX11_explained_41 : decode cX11_explained 41 = .ok (.iload 6, 2) := by decide +kernel
theorem dX11_explained_43 : decode cX11_explained 43 = .ok (.bipush 100, 2) := by decide +kernel
theorem dX11_explained_45 : decode cX11_explained 45 = .ok (.if_icmp .lt 7, 3) := by decide +kernel
theorem dX11_explained_48 : decode cX11_explained 48 = .ok (.iconst 1, 1) := by decide +kernel
theorem dX11_explained_49 : decode cX11_explained 49 = .ok (.goto 4, 3) := by decide +kernel
theorem dX11_explained_52 : decode cX11_explained 52 = .ok (.iconst 0, 1) := by decide +kernel
theorem dX11_explained_53 : decode cX11_explained 53 = .ok (.isub, 1) := by decide +kernel
theorem dX11_explained_54 : decode cX11_explained 54 = .ok (.istore_n 3, 1) := by decide +kernel
theorem dX11_explained_55 : decode cX11_explained 55 = .ok (.iconst 0, 1) := by decide +kernel
theorem dX11_explained_56 : decode cX11_explained 56 = .ok (.istore 7, 2) := by decide +kernel
theorem dX11_explained_58 : decode cX11_explained 58 = .ok (.iload 7, 2) := by decide +kernel
theorem dX11_explained_60 : decode cX11_explained 60 = .ok (.iconst 3, 1) := by decide +kernel
theorem dX11_explained_61 : decode cX11_explained 61 = .ok (.if_icmp .ge 88, 3) := by decide +kernel
theorem dX11_explained_64 : decode cX11_explained 64 = .ok (.aload_n 0, 1) := by decide +kernel
theorem dX11_explained_65 : decode cX11_explained 65 = .ok (.getfield 73, 3) := by decide +kernel
theorem dX11_explained_68 : decode cX11_explained 68 = .ok (.aload_n 0, 1) := by decide +kernel
theorem dX11_explained_69 : decode cX11_explained 69 = .ok (.getfield 70, 3) := by decide +kernel
theorem dX11_explained_72 : decode cX11_explained 72 = .ok (.invokevirtual 163, 3) := by decide +kernel
theorem dX11_explained_75 : decode cX11_explained 75 = .ok (.aload_n 0, 1) := by decide +kernel
theorem dX11_explained_76 : decode cX11_explained 76 = .ok (.aload_n 0, 1) := by decide +kernel
theorem dX11_explained_77 : decode cX11_explained 77 = .ok (.getfield 73, 3) := by decide +kernel
theorem dX11_explained_80 : decode cX11_explained 80 = .ok (.iload 6, 2) := by decide +kernel
theorem dX11_explained_82 : decode cX11_explained 82 = .ok (.iload 7, 2) := by decide +kernel
theorem dX11_explained_84 : decode cX11_explained 84 = .ok (.invokevirtual 368, 3) := by decide +kernel
theorem dX11_explained_87 : decode cX11_explained 87 = .ok (.ifCond .eq 56, 3) := by decide +kernel
theorem dX11_explained_90 : decode cX11_explained 90 = .ok (.aload_n 0, 1) := by decide +kernel
theorem dX11_explained_91 : decode cX11_explained 91 = .ok (.getfield 73, 3) := by decide +kernel
theorem dX11_explained_94 : decode cX11_explained 94 = .ok (.getfield 364, 3) := by decide +kernel
theorem dX11_explained_97 : decode cX11_explained 97 = .ok (.iload_n 3, 1) := by decide +kernel
theorem dX11_explained_98 : decode cX11_explained 98 = .ok (.iadd, 1) := by decide +kernel
theorem dX11_explained_99 : decode cX11_explained 99 = .ok (.aload_n 0, 1) := by decide +kernel
theorem dX11_explained_100 : decode cX11_explained 100 = .ok (.getfield 56, 3) := by decide +kernel
theorem dX11_explained_103 : decode cX11_explained 103 = .ok (.getfield 188, 3) := by decide +kernel
theorem dX11_explained_106 : decode cX11_explained 106 = .ok (.if_icmp .ne 37, 3) := by decide +kernel
theorem dX11_explained_109 : decode cX11_explained 109 = .ok (.aload_n 0, 1) := by decide +kernel
theorem dX11_explained_110 : decode cX11_explained 110 = .ok (.aload_n 0, 1) := by decide +kernel
theorem dX11_explained_111 : decode cX11_explained 111 = .ok (.getfield 73, 3) := by decide +kernel
theorem dX11_explained_114 : decode cX11_explained 114 = .ok (.aload_n 1, 1) := by decide +kernel
theorem dX11_explained_115 : decode cX11_explained 115 = .ok (.iload 5, 2) := by decide +kernel
theorem dX11_explained_117 : decode cX11_explained 117 = .ok (.iconst 1, 1) := by decide +kernel
theorem dX11_explained_118 : decode cX11_explained 118 = .ok (.iadd, 1) := by decide +kernel
theorem dX11_explained_119 : decode cX11_explained 119 = .ok (.invokevirtual 270, 3) := by decide +kernel
theorem dX11_explained_122 : decode cX11_explained 122 = .ok (.ifCond .eq 21, 3) := by decide +kernel
theorem dX11_explained_125 : decode cX11_explained 125 = .ok (.iload 4, 2) := by decide +kernel
theorem dX11_explained_127 : decode cX11_explained 127 = .ok (.iload_n 2, 1) := by decide +kernel
theorem dX11_explained_128 : decode cX11_explained 128 = .ok (.if_icmp .ne 12, 3) := by decide +kernel
theorem dX11_explained_131 : decode cX11_explained 131 = .ok (.bipush 10, 2) := by decide +kernel
theorem dX11_explained_133 : decode cX11_explained 133 = .ok (.iload 5, 2) := by decide +kernel
theorem dX11_explained_135 : decode cX11_explained 135 = .ok (.imul, 1) := by decide +kernel
theorem dX11_explained_136 : decode cX11_explained 136 = .ok (.iload 7, 2) := by decide +kernel
theorem dX11_explained_138 : decode cX11_explained 138 = .ok (.iadd, 1) := by decide +kernel
theorem dX11_explained_139 : decode cX11_explained 139 = .ok (.ireturn, 1) := by decide +kernel
theorem dX11_explained_140 : decode cX11_explained 140 = .ok (.iinc 4 1, 3) := by decide +kernel
theorem dX11_explained_143 : decode cX11_explained 143 = .ok (.iinc 7 1, 3) := by decide +kernel
theorem dX11_explained_146 : decode cX11_explained 146 = .ok (.goto (-88), 3) := by decide +kernel
theorem dX11_explained_149 : decode cX11_explained 149 = .ok (.aload_n 0, 1) := by decide +kernel
theorem dX11_explained_150 : decode cX11_explained 150 = .ok (.aload_n 0, 1) := by decide +kernel
theorem dX11_explained_151 : decode cX11_explained 151 = .ok (.getfield 70, 3) := by decide +kernel
theorem dX11_explained_154 : decode cX11_explained 154 = .ok (.iload 6, 2) := by decide +kernel
theorem dX11_explained_156 : decode cX11_explained 156 = .ok (.invokevirtual 360, 3) := by decide +kernel
theorem dX11_explained_159 : decode cX11_explained 159 = .ok (.ifCond .ne 6, 3) := by decide +kernel
theorem dX11_explained_162 : decode cX11_explained 162 = .ok (.goto 9, 3) := by decide +kernel
theorem dX11_explained_165 : decode cX11_explained 165 = .ok (.iinc 5 1, 3) := by decide +kernel
theorem dX11_explained_168 : decode cX11_explained 168 = .ok (.goto (-146), 3) := by decide +kernel
theorem dX11_explained_171 : decode cX11_explained 171 = .ok (.iload_n 2, 1) := by decide +kernel
theorem dX11_explained_172 : decode cX11_explained 172 = .ok (.iconst (-1), 1) := by decide +kernel
theorem dX11_explained_173 : decode cX11_explained 173 = .ok (.if_icmp .ne 8, 3) := by decide +kernel
theorem dX11_explained_176 : decode cX11_explained 176 = .ok (.iload 4, 2) := by decide +kernel
theorem dX11_explained_178 : decode cX11_explained 178 = .ok (.goto 4, 3) := by decide +kernel
theorem dX11_explained_181 : decode cX11_explained 181 = .ok (.iconst (-1), 1) := by decide +kernel
theorem dX11_explained_182 : decode cX11_explained 182 = .ok (.ireturn, 1) := by decide +kernel
theorem dX11_seatPeople_0 : decode cX11_seatPeople 0 = .ok (.aload_n 0, 1) := by decide +kernel
theorem dX11_seatPeople_1 : decode cX11_seatPeople 1 = .ok (.getfield 36, 3) := by decide +kernel
theorem dX11_seatPeople_4 : decode cX11_seatPeople 4 = .ok (.getfield 157, 3) := by decide +kernel
theorem dX11_seatPeople_7 : decode cX11_seatPeople 7 = .ok (.istore_n 2, 1) := by decide +kernel
theorem dX11_seatPeople_8 : decode cX11_seatPeople 8 = .ok (.iload_n 2, 1) := by decide +kernel
theorem dX11_seatPeople_9 : decode cX11_seatPeople 9 = .ok (.ifCond .eq 9, 3) := by decide +kernel
theorem dX11_seatPeople_12 : decode cX11_seatPeople 12 = .ok (.iload_n 2, 1) := by decide +kernel
theorem dX11_seatPeople_13 : decode cX11_seatPeople 13 = .ok (.bipush 7, 2) := by decide +kernel
theorem dX11_seatPeople_15 : decode cX11_seatPeople 15 = .ok (.if_icmp .le 6, 3) := by decide +kernel
theorem dX11_seatPeople_18 : decode cX11_seatPeople 18 = .ok (.bipush (-3), 2) := by decide +kernel
theorem dX11_seatPeople_20 : decode cX11_seatPeople 20 = .ok (.ireturn, 1) := by decide +kernel
theorem dX11_seatPeople_21 : decode cX11_seatPeople 21 = .ok (.iload_n 1, 1) := by decide +kernel
theorem dX11_seatPeople_22 : decode cX11_seatPeople 22 = .ok (.aload_n 0, 1) := by decide +kernel
theorem dX11_seatPeople_23 : decode cX11_seatPeople 23 = .ok (.getfield 15, 3) := by decide +kernel
theorem dX11_seatPeople_26 : decode cX11_seatPeople 26 = .ok (.iushr, 1) := by decide +kernel
theorem dX11_seatPeople_27 : decode cX11_seatPeople 27 = .ok (.ifCond .ne 11, 3) := by decide +kernel
theorem dX11_seatPeople_30 : decode cX11_seatPeople 30 = .ok (.iload_n 1, 1) := by decide +kernel
theorem dX11_seatPeople_31 : decode cX11_seatPeople 31 = .ok (.invokestatic 372, 3) := by decide +kernel
theorem dX11_seatPeople_34 : decode cX11_seatPeople 34 = .ok (.iload_n 2, 1) := by decide +kernel
theorem dX11_seatPeople_35 : decode cX11_seatPeople 35 = .ok (.if_icmp .eq 6, 3) := by decide +kernel
theorem dX11_seatPeople_38 : decode cX11_seatPeople 38 = .ok (.bipush (-2), 2) := by decide +kernel
theorem dX11_seatPeople_40 : decode cX11_seatPeople 40 = .ok (.ireturn, 1) := by decide +kernel
theorem dX11_seatPeople_41 : decode cX11_seatPeople 41 = .ok (.aload_n 0, 1) := by decide +kernel
theorem dX11_seatPeople_42 : decode cX11_seatPeople 42 = .ok (.getfield 103, 3) := by decide +kernel
theorem dX11_seatPeople_45 : decode cX11_seatPeople 45 = .ok (.invokevirtual 377, 3) := by decide +kernel
theorem dX11_seatPeople_48 : decode cX11_seatPeople 48 = .ok (.iconst 0, 1) := by decide +kernel
theorem dX11_seatPeople_49 : decode cX11_seatPeople 49 = .ok (.istore_n 3, 1) := by decide +kernel
theorem dX11_seatPeople_50 : decode cX11_seatPeople 50 = .ok (.iload_n 3, 1) := by decide +kernel
theorem dX11_seatPeople_51 : decode cX11_seatPeople 51 = .ok (.aload_n 0, 1) := by decide +kernel
theorem dX11_seatPeople_52 : decode cX11_seatPeople 52 = .ok (.getfield 15, 3) := by decide +kernel
theorem dX11_seatPeople_55 : decode cX11_seatPeople 55 = .ok (.if_icmp .ge 50, 3) := by decide +kernel
theorem dX11_seatPeople_58 : decode cX11_seatPeople 58 = .ok (.aload_n 0, 1) := by decide +kernel
theorem dX11_seatPeople_59 : decode cX11_seatPeople 59 = .ok (.iload_n 3, 1) := by decide +kernel
theorem dX11_seatPeople_60 : decode cX11_seatPeople 60 = .ok (.invokevirtual 133, 3) := by decide +kernel
theorem dX11_seatPeople_63 : decode cX11_seatPeople 63 = .ok (.astore 4, 2) := by decide +kernel
theorem dX11_seatPeople_65 : decode cX11_seatPeople 65 = .ok (.iload_n 1, 1) := by decide +kernel
theorem dX11_seatPeople_66 : decode cX11_seatPeople 66 = .ok (.iload_n 3, 1) := by decide +kernel
theorem dX11_seatPeople_67 : decode cX11_seatPeople 67 = .ok (.iushr, 1) := by decide +kernel
theorem dX11_seatPeople_68 : decode cX11_seatPeople 68 = .ok (.iconst 1, 1) := by decide +kernel
theorem dX11_seatPeople_69 : decode cX11_seatPeople 69 = .ok (.iand, 1) := by decide +kernel
theorem dX11_seatPeople_70 : decode cX11_seatPeople 70 = .ok (.ifCond .eq 29, 3) := by decide +kernel
theorem dX11_seatPeople_73 : decode cX11_seatPeople 73 = .ok (.aload 4, 2) := by decide +kernel
theorem dX11_seatPeople_75 : decode cX11_seatPeople 75 = .ok (.ifnull 24, 3) := by decide +kernel
theorem dX11_seatPeople_78 : decode cX11_seatPeople 78 = .ok (.aload 4, 2) := by decide +kernel
theorem dX11_seatPeople_80 : decode cX11_seatPeople 80 = .ok (.getfield 144, 3) := by decide +kernel
theorem dX11_seatPeople_83 : decode cX11_seatPeople 83 = .ok (.iconst 4, 1) := by decide +kernel
theorem dX11_seatPeople_84 : decode cX11_seatPeople 84 = .ok (.if_icmp .ne 6, 3) := by decide +kernel
theorem dX11_seatPeople_87 : decode cX11_seatPeople 87 = .ok (.bipush (-2), 2) := by decide +kernel
theorem dX11_seatPeople_89 : decode cX11_seatPeople 89 = .ok (.ireturn, 1) := by decide +kernel
theorem dX11_seatPeople_90 : decode cX11_seatPeople 90 = .ok (.aload_n 0, 1) := by decide +kernel
theorem dX11_seatPeople_91 : decode cX11_seatPeople 91 = .ok (.getfield 103, 3) := by decide +kernel
theorem dX11_seatPeople_94 : decode cX11_seatPeople 94 = .ok (.aload 4, 2) := by decide +kernel
theorem dX11_seatPeople_96 : decode cX11_seatPeople 96 = .ok (.invokevirtual 378, 3) := by decide +kernel
theorem dX11_seatPeople_99 : decode cX11_seatPeople 99 = .ok (.iinc 3 1, 3) := by decide +kernel
theorem dX11_seatPeople_102 : decode cX11_seatPeople 102 = .ok (.goto (-52), 3) := by decide +kernel
theorem dX11_seatPeople_105 : decode cX11_seatPeople 105 = .ok (.aload_n 0, 1) := by decide +kernel
theorem dX11_seatPeople_106 : decode cX11_seatPeople 106 = .ok (.getfield 103, 3) := by decide +kernel
theorem dX11_seatPeople_109 : decode cX11_seatPeople 109 = .ok (.invokevirtual 381, 3) := by decide +kernel
theorem dX11_seatPeople_112 : decode cX11_seatPeople 112 = .ok (.iconst 0, 1) := by decide +kernel
theorem dX11_seatPeople_113 : decode cX11_seatPeople 113 = .ok (.ireturn, 1) := by decide +kernel
theorem dX12_init_0 : decode cX12_init 0 = .ok (.aload_n 0, 1) := by decide +kernel
theorem dX12_init_1 : decode cX12_init 1 = .ok (.invokespecial 1, 3) := by decide +kernel
theorem dX12_init_4 : decode cX12_init 4 = .ok (.aload_n 0, 1) := by decide +kernel
theorem dX12_init_5 : decode cX12_init 5 = .ok (.iconst 0, 1) := by decide +kernel
theorem dX12_init_6 : decode cX12_init 6 = .ok (.putfield 7, 3) := by decide +kernel
theorem dX12_init_9 : decode cX12_init 9 = .ok (.aload_n 0, 1) := by decide +kernel
theorem dX12_init_10 : decode cX12_init 10 = .ok (.iconst 0, 1) := by decide +kernel
theorem dX12_init_11 : decode cX12_init 11 = .ok (.putfield 13, 3) := by decide +kernel
theorem dX12_init_14 : decode cX12_init 14 = .ok (.aload_n 0, 1) := by decide +kernel
theorem dX12_init_15 : decode cX12_init 15 = .ok (.bipush 15, 2) := by decide +kernel
theorem dX12_init_17 : decode cX12_init 17 = .ok (.newarray .int, 2) := by decide +kernel
theorem dX12_init_19 : decode cX12_init 19 = .ok (.putfield 16, 3) := by decide +kernel
theorem dX12_init_22 : decode cX12_init 22 = .ok (.aload_n 0, 1) := by decide +kernel
theorem dX12_init_23 : decode cX12_init 23 = .ok (.bipush 15, 2) := by decide +kernel
theorem dX12_init_25 : decode cX12_init 25 = .ok (.newarray .int, 2) := by decide +kernel
theorem dX12_init_27 : decode cX12_init 27 = .ok (.putfield 20, 3) := by decide +kernel
theorem dX12_init_30 : decode cX12_init 30 = .ok (.aload_n 0, 1) := by decide +kernel
theorem dX12_init_31 : decode cX12_init 31 = .ok (.bipush 15, 2) := by decide +kernel
theorem dX12_init_33 : decode cX12_init 33 = .ok (.newarray .int, 2) := by decide +kernel
theorem dX12_init_35 : decode cX12_init 35 = .ok (.putfield 23, 3) := by decide +kernel
theorem dX12_init_38 : decode cX12_init 38 = .ok (.aload_n 0, 1) := by decide +kernel
theorem dX12_init_39 : decode cX12_init 39 = .ok (.bipush 9, 2) := by decide +kernel
theorem dX12_init_41 : decode cX12_init 41 = .ok (.newarray .int, 2) := by decide +kernel
theorem dX12_init_43 : decode cX12_init 43 = .ok (.putfield 26, 3) := by decide +kernel
theorem dX12_init_46 : decode cX12_init 46 = .ok (.aload_n 0, 1) := by decide +kernel
theorem dX12_init_47 : decode cX12_init 47 = .ok (.bipush 9, 2) := by decide +kernel
theorem dX12_init_49 : decode cX12_init 49 = .ok (.newarray .int, 2) := by decide +kernel
theorem dX12_init_51 : decode cX12_init 51 = .ok (.putfield 29, 3) := by decide +kernel
theorem dX12_init_54 : decode cX12_init 54 = .ok (.aload_n 0, 1) := by decide +kernel
theorem dX12_init_55 : decode cX12_init 55 = .ok (.bipush 9, 2) := by decide +kernel
theorem dX12_init_57 : decode cX12_init 57 = .ok (.newarray .int, 2) := by decide +kernel
theorem dX12_init_59 : decode cX12_init 59 = .ok (.putfield 32, 3) := by decide +kernel
theorem dX12_init_62 : decode cX12_init 62 = .ok (.aload_n 0, 1) := by decide +kernel
theorem dX12_init_63 : decode cX12_init 63 = .ok (.bipush 9, 2) := by decide +kernel
theorem dX12_init_65 : decode cX12_init 65 = .ok (.newarray .int, 2) := by decide +kernel
theorem dX12_init_67 : decode cX12_init 67 = .ok (.putfield 35, 3) := by decide +kernel
theorem dX12_init_70 : decode cX12_init 70 = .ok (.aload_n 0, 1) := by decide +kernel
theorem dX12_init_71 : decode cX12_init 71 = .ok (.bipush 9, 2) := by decide +kernel
theorem dX12_init_73 : decode cX12_init 73 = .ok (.newarray .int, 2) := by decide +kernel
theorem dX12_init_75 : decode cX12_init 75 = .ok (.putfield 38, 3) := by decide +kernel
theorem dX12_init_78 : decode cX12_init 78 = .ok (.aload_n 0, 1) := by decide +kernel
theorem dX12_init_79 : decode cX12_init 79 = .ok (.bipush 9, 2) := by decide +kernel
theorem dX12_init_81 : decode cX12_init 81 = .ok (.newarray .int, 2) := by decide +kernel
theorem dX12_init_83 : decode cX12_init 83 = .ok (.putfield 41, 3) := by decide +kernel
theorem dX12_init_86 : decode cX12_init 86 = .ok (.aload_n 0, 1) := by decide +kernel
theorem dX12_init_87 : decode cX12_init 87 = .ok (.iconst 0, 1) := by decide +kernel
theorem dX12_init_88 : decode cX12_init 88 = .ok (.putfield 44, 3) := by decide +kernel
theorem dX12_init_91 : decode cX12_init 91 = .ok (.aload_n 0, 1) := by decide +kernel
theorem dX12_init_92 : decode cX12_init 92 = .ok (.bipush 9, 2) := by decide +kernel
theorem dX12_init_94 : decode cX12_init 94 = .ok (.newarray .int, 2) := by decide +kernel
theorem dX12_init_96 : decode cX12_init 96 = .ok (.putfield 48, 3) := by decide +kernel
theorem dX12_init_99 : decode cX12_init 99 = .ok (.aload_n 0, 1) := by decide +kernel
theorem dX12_init_100 : decode cX12_init 100 = .ok (.bipush 9, 2) := by decide +kernel
theorem dX12_init_102 : decode cX12_init 102 = .ok (.newarray .int, 2) := by decide +kernel
theorem dX12_init_104 : decode cX12_init 104 = .ok (.putfield 51, 3) := by decide +kernel
theorem dX12_init_107 : decode cX12_init 107 = .ok (.aload_n 0, 1) := by decide +kernel
theorem dX12_init_108 : decode cX12_init 108 = .ok (.iconst 0, 1) := by decide +kernel
theorem dX12_init_109 : decode cX12_init 109 = .ok (.putfield 54, 3) := by decide +kernel
theorem dX12_init_112 : decode cX12_init 112 = .ok (.aload_n 0, 1) := by decide +kernel
theorem dX12_init_113 : decode cX12_init 113 = .ok (.iconst 0, 1) := by decide +kernel
theorem dX12_init_114 : decode cX12_init 114 = .ok (.putfield 57, 3) := by decide +kernel
theorem dX12_init_117 : decode cX12_init 117 = .ok (.aload_n 0, 1) := by decide +kernel
theorem dX12_init_118 : decode cX12_init 118 = .ok (.sipush 300, 3) := by decide +kernel
theorem dX12_init_121 : decode cX12_init 121 = .ok (.newarray .int, 2) := by decide +kernel
theorem dX12_init_123 : decode cX12_init 123 = .ok (.putfield 60, 3) := by decide +kernel
theorem dX12_init_126 : decode cX12_init 126 = .ok (.aload_n 0, 1) := by decide +kernel
theorem dX12_init_127 : decode cX12_init 127 = .ok (.bipush 9, 2) := by decide +kernel
theorem dX12_init_129 : decode cX12_init 129 = .ok (.newarray .int, 2) := by decide +kernel
theorem dX12_init_131 : decode cX12_init 131 = .ok (.putfield 63, 3) := by decide +kernel
theorem dX12_init_134 : decode cX12_init 134 = .ok (.aload_n 0, 1) := by decide +kernel
theorem dX12_init_135 : decode cX12_init 135 = .ok (.sipush 900, 3) := by decide +kernel
theorem dX12_init_138 : decode cX12_init 138 = .ok (.newarray .int, 2) := by decide +kernel
theorem dX12_init_140 : decode cX12_init 140 = .ok (.putfield 66, 3) := by decide +kernel
theorem dX12_init_143 : decode cX12_init 143 = .ok (.aload_n 0, 1) := by decide +kernel
theorem dX12_init_144 : decode cX12_init 144 = .ok (.sipush 900, 3) := by decide +kernel
theorem dX12_init_147 : decode cX12_init 147 = .ok (.newarray .int, 2) := by decide +kernel
theorem dX12_init_149 : decode cX12_init 149 = .ok (.putfield 69, 3) := by decide +kernel
theorem dX12_init_152 : decode cX12_init 152 = .ok (.aload_n 0, 1) := by decide +kernel
theorem dX12_init_153 : decode cX12_init 153 = .ok (.iconst 0, 1) := by decide +kernel
theorem dX12_init_154 : decode cX12_init 154 = .ok (.putfield 72, 3) := by decide +kernel
theorem dX12_init_157 : decode cX12_init 157 = .ok (.aload_n 0, 1) := by decide +kernel
theorem dX12_init_158 : decode cX12_init 158 = .ok (.bipush 40, 2) := by decide +kernel
theorem dX12_init_160 : decode cX12_init 160 = .ok (.newarray .int, 2) := by decide +kernel
theorem dX12_init_162 : decode cX12_init 162 = .ok (.putfield 75, 3) := by decide +kernel
theorem dX12_init_165 : decode cX12_init 165 = .ok (.aload_n 0, 1) := by decide +kernel
theorem dX12_init_166 : decode cX12_init 166 = .ok (.bipush 40, 2) := by decide +kernel
theorem dX12_init_168 : decode cX12_init 168 = .ok (.newarray .int, 2) := by decide +kernel
theorem dX12_init_170 : decode cX12_init 170 = .ok (.putfield 78, 3) := by decide +kernel
theorem dX12_init_173 : decode cX12_init 173 = .ok (.aload_n 0, 1) := by decide +kernel
theorem dX12_init_174 : decode cX12_init 174 = .ok (.bipush 40, 2) := by decide +kernel
theorem dX12_init_176 : decode cX12_init 176 = .ok (.newarray .int, 2) := by decide +kernel
theorem dX12_init_178 : decode cX12_init 178 = .ok (.putfield 81, 3) := by decide +kernel
theorem dX12_init_181 : decode cX12_init 181 = .ok (.aload_n 0, 1) := by decide +kernel
theorem dX12_init_182 : decode cX12_init 182 = .ok (.bipush 9, 2) := by decide +kernel
theorem dX12_init_184 : decode cX12_init 184 = .ok (.newarray .int, 2) := by decide +kernel
theorem dX12_init_186 : decode cX12_init 186 = .ok (.putfield 84, 3) := by decide +kernel
theorem dX12_init_189 : decode cX12_init 189 = .ok (.aload_n 0, 1) := by decide +kernel
theorem dX12_init_190 : decode cX12_init 190 = .ok (.bipush 9, 2) := by decide +kernel
theorem dX12_init_192 : decode cX12_init 192 = .ok (.newarray .int, 2) := by decide +kernel
theorem dX12_init_194 : decode cX12_init 194 = .ok (.putfield 87, 3) := by decide +kernel
theorem dX12_init_197 : decode cX12_init 197 = .ok (.aload_n 0, 1) := by decide +kernel
theorem dX12_init_198 : decode cX12_init 198 = .ok (.iconst 0, 1) := by decide +kernel
theorem dX12_init_199 : decode cX12_init 199 = .ok (.putfield 90, 3) := by decide +kernel
theorem dX12_init_202 : decode cX12_init 202 = .ok (.aload_n 0, 1) := by decide +kernel
theorem dX12_init_203 : decode cX12_init 203 = .ok (.iconst 0, 1) := by decide +kernel
theorem dX12_init_204 : decode cX12_init 204 = .ok (.putfield 93, 3) := by decide +kernel
theorem dX12_init_207 : decode cX12_init 207 = .ok (.aload_n 0, 1) := by decide +kernel
theorem dX12_init_208 : decode cX12_init 208 = .ok (.bipush 11, 2) := by decide +kernel
theorem dX12_init_210 : decode cX12_init 210 = .ok (.newarray .int, 2) := by decide +kernel
theorem dX12_init_212 : decode cX12_init 212 = .ok (.putfield 96, 3) := by decide +kernel
theorem dX12_init_215 : decode cX12_init 215 = .ok (.aload_n 0, 1) := by decide +kernel
theorem dX12_init_216 : decode cX12_init 216 = .ok (.sipush 3300, 3) := by decide +kernel
theorem dX12_init_219 : decode cX12_init 219 = .ok (.newarray .int, 2) := by decide +kernel
theorem dX12_init_221 : decode cX12_init 221 = .ok (.putfield 99, 3) := by decide +kernel
theorem dX12_init_224 : decode cX12_init 224 = .ok (.aload_n 0, 1) := by decide +kernel
theorem dX12_init_225 : decode cX12_init 225 = .ok (.bipush 80, 2) := by decide +kernel
theorem dX12_init_227 : decode cX12_init 227 = .ok (.newarray .int, 2) := by decide +kernel
theorem dX12_init_229 : decode cX12_init 229 = .ok (.putfield 102, 3) := by decide +kernel
theorem dX12_init_232 : decode cX12_init 232 = .ok (.aload_n 0, 1) := by decide +kernel
theorem dX12_init_233 : decode cX12_init 233 = .ok (.iconst 0, 1) := by decide +kernel
theorem dX12_init_234 : decode cX12_init 234 = .ok (.putfield 105, 3) := by decide +kernel
theorem dX12_init_237 : decode cX12_init 237 = .ok (.aload_n 0, 1) := by decide +kernel
theorem dX12_init_238 : decode cX12_init 238 = .ok (.iconst 0, 1) := by decide +kernel
theorem dX12_init_239 : decode cX12_init 239 = .ok (.putfield 108, 3) := by decide +kernel
theorem dX12_init_242 : decode cX12_init 242 = .ok (.aload_n 0, 1) := by decide +kernel
theorem dX12_init_243 : decode cX12_init 243 = .ok (.iconst 5, 1) := by decide +kernel
theorem dX12_init_244 : decode cX12_init 244 = .ok (.newarray .int, 2) := by decide +kernel
theorem dX12_init_246 : decode cX12_init 246 = .ok (.putfield 111, 3) := by decide +kernel
theorem dX12_init_249 : decode cX12_init 249 = .ok (.aload_n 0, 1) := by decide +kernel
theorem dX12_init_250 : decode cX12_init 250 = .ok (.iconst 5, 1) := by decide +kernel
theorem dX12_init_251 : decode cX12_init 251 = .ok (.newarray .int, 2) := by decide +kernel
theorem dX12_init_253 : decode cX12_init 253 = .ok (.putfield 114, 3) := by decide +kernel
theorem dX12_init_256 : decode cX12_init 256 = .ok (.aload_n 0, 1) := by decide +kernel
theorem dX12_init_257 : decode cX12_init 257 = .ok (.sipush 300, 3) := by decide +kernel
theorem dX12_init_260 : decode cX12_init 260 = .ok (.newarray .int, 2) := by decide +kernel
theorem dX12_init_262 : decode cX12_init 262 = .ok (.putfield 117, 3) := by decide +kernel
theorem dX12_init_265 : decode cX12_init 265 = .ok (.aload_n 0, 1) := by decide +kernel
theorem dX12_init_266 : decode cX12_init 266 = .ok (.sipush 300, 3) := by decide +kernel
theorem dX12_init_269 : decode cX12_init 269 = .ok (.newarray .int, 2) := by decide +kernel
theorem dX12_init_271 : decode cX12_init 271 = .ok (.putfield 120, 3) := by decide +kernel
theorem dX12_init_274 : decode cX12_init 274 = .ok (.aload_n 0, 1) := by decide +kernel
theorem dX12_init_275 : decode cX12_init 275 = .ok (.iconst 0, 1) := by decide +kernel
theorem dX12_init_276 : decode cX12_init 276 = .ok (.putfield 123, 3) := by decide +kernel
theorem dX12_init_279 : decode cX12_init 279 = .ok (.aload_n 0, 1) := by decide +kernel
theorem dX12_init_280 : decode cX12_init 280 = .ok (.iconst 0, 1) := by decide +kernel
theorem dX12_init_281 : decode cX12_init 281 = .ok (.putfield 126, 3) := by decide +kernel
theorem dX12_init_284 : decode cX12_init 284 = .ok (.aload_n 0, 1) := by decide +kernel
theorem dX12_init_285 : decode cX12_init 285 = .ok (.bipush 9, 2) := by decide +kernel
theorem dX12_init_287 : decode cX12_init 287 = .ok (.newarray .int, 2) := by decide +kernel
theorem dX12_init_289 : decode cX12_init 289 = .ok (.putfield 129, 3) := by decide +kernel
theorem dX12_init_292 : decode cX12_init 292 = .ok (.aload_n 0, 1) := by decide +kernel
theorem dX12_init_293 : decode cX12_init 293 = .ok (.bipush 9, 2) := by decide +kernel
theorem dX12_init_295 : decode cX12_init 295 = .ok (.newarray .int, 2) := by decide +kernel
theorem dX12_init_297 : decode cX12_init 297 = .ok (.putfield 132, 3) := by decide +kernel
theorem dX12_init_300 : decode cX12_init 300 = .ok (.aload_n 0, 1) := by decide +kernel
theorem dX12_init_301 : decode cX12_init 301 = .ok (.bipush 9, 2) := by decide +kernel
theorem dX12_init_303 : decode cX12_init 303 = .ok (.newarray .int, 2) := by decide +kernel
theorem dX12_init_305 : decode cX12_init 305 = .ok (.putfield 135, 3) := by decide +kernel
theorem dX12_init_308 : decode cX12_init 308 = .ok (.aload_n 0, 1) := by decide +kernel
theorem dX12_init_309 : decode cX12_init 309 = .ok (.iconst 0, 1) := by decide +kernel
theorem dX12_init_310 : decode cX12_init 310 = .ok (.putfield 138, 3) := by decide +kernel
theorem dX12_init_313 : decode cX12_init 313 = .ok (.aload_n 0, 1) := by decide +kernel
theorem dX12_init_314 : decode cX12_init 314 = .ok (.iconst 0, 1) := by decide +kernel
theorem dX12_init_315 : decode cX12_init 315 = .ok (.putfield 141, 3) := by decide +kernel
theorem dX12_init_318 : decode cX12_init 318 = .ok (.aload_n 0, 1) := by decide +kernel
theorem dX12_init_319 : decode cX12_init 319 = .ok (.bipush 7, 2) := by decide +kernel
theorem dX12_init_321 : decode cX12_init 321 = .ok (.newarray .int, 2) := by decide +kernel
theorem dX12_init_323 : decode cX12_init 323 = .ok (.putfield 144, 3) := by decide +kernel
theorem dX12_init_326 : decode cX12_init 326 = .ok (.aload_n 0, 1) := by decide +kernel
theorem dX12_init_327 : decode cX12_init 327 = .ok (.bipush 7, 2) := by decide +kernel
theorem dX12_init_329 : decode cX12_init 329 = .ok (.newarray .int, 2) := by decide +kernel
theorem dX12_init_331 : decode cX12_init 331 = .ok (.putfield 147, 3) := by decide +kernel
theorem dX12_init_334 : decode cX12_init 334 = .ok (.aload_n 0, 1) := by decide +kernel
theorem dX12_init_335 : decode cX12_init 335 = .ok (.sipush 5040, 3) := by decide +kernel
theorem dX12_init_338 : decode cX12_init 338 = .ok (.newarray .int, 2) := by decide +kernel
theorem dX12_init_340 : decode cX12_init 340 = .ok (.putfield 150, 3) := by decide +kernel
theorem dX12_init_343 : decode cX12_init 343 = .ok (.aload_n 0, 1) := by decide +kernel
theorem dX12_init_344 : decode cX12_init 344 = .ok (.sipush 5040, 3) := by decide +kernel
theorem dX12_init_347 : decode cX12_init 347 = .ok (.newarray .int, 2) := by decide +kernel
theorem dX12_init_349 : decode cX12_init 349 = .ok (.putfield 153, 3) := by decide +kernel
theorem dX12_init_352 : decode cX12_init 352 = .ok (.aload_n 0, 1) := by decide +kernel
theorem dX12_init_353 : decode cX12_init 353 = .ok (.bipush 64, 2) := by decide +kernel
theorem dX12_init_355 : decode cX12_init 355 = .ok (.newarray .int, 2) := by decide +kernel
theorem dX12_init_357 : decode cX12_init 357 = .ok (.putfield 156, 3) := by decide +kernel
theorem dX12_init_360 : decode cX12_init 360 = .ok (.aload_n 0, 1) := by decide +kernel
theorem dX12_init_361 : decode cX12_init 361 = .ok (.iconst 0, 1) := by decide +kernel
theorem dX12_init_362 : decode cX12_init 362 = .ok (.putfield 159, 3) := by decide +kernel
theorem dX12_init_365 : decode cX12_init 365 = .ok (.aload_n 0, 1) := by decide +kernel
theorem dX12_init_366 : decode cX12_init 366 = .ok (.bipush 7, 2) := by decide +kernel
theorem dX12_init_368 : decode cX12_init 368 = .ok (.newarray .int, 2) := by decide +kernel
theorem dX12_init_370 : decode cX12_init 370 = .ok (.putfield 162, 3) := by decide +kernel
theorem dX12_init_373 : decode cX12_init 373 = .ok (.aload_n 0, 1) := by decide +kernel
theorem dX12_init_374 : decode cX12_init 374 = .ok (.bipush 7, 2) := by decide +kernel
theorem dX12_init_376 : decode cX12_init 376 = .ok (.newarray .int, 2) := by decide +kernel
theorem dX12_init_378 : decode cX12_init 378 = .ok (.putfield 165, 3) := by decide +kernel
theorem dX12_init_381 : decode cX12_init 381 = .ok (.aload_n 0, 1) := by decide +kernel
theorem dX12_init_382 : decode cX12_init 382 = .ok (.bipush 7, 2) := by decide +kernel
theorem dX12_init_384 : decode cX12_init 384 = .ok (.newarray .int, 2) := by decide +kernel
theorem dX12_init_386 : decode cX12_init 386 = .ok (.putfield 168, 3) := by decide +kernel
theorem dX12_init_389 : decode cX12_init 389 = .ok (.aload_n 0, 1) := by decide +kernel
theorem dX12_init_390 : decode cX12_init 390 = .ok (.bipush 7, 2) := by decide +kernel
theorem dX12_init_392 : decode cX12_init 392 = .ok (.newarray .int, 2) := by decide +kernel
theorem dX12_init_394 : decode cX12_init 394 = .ok (.putfield 171, 3) := by decide +kernel
theorem dX12_init_397 : decode cX12_init 397 = .ok (.aload_n 0, 1) := by decide +kernel
theorem dX12_init_398 : decode cX12_init 398 = .ok (.iconst 0, 1) := by decide +kernel
theorem dX12_init_399 : decode cX12_init 399 = .ok (.putfield 174, 3) := by decide +kernel
theorem dX12_init_402 : decode cX12_init 402 = .ok (.aload_n 0, 1) := by decide +kernel
theorem dX12_init_403 : decode cX12_init 403 = .ok (.iconst 0, 1) := by decide +kernel
theorem dX12_init_404 : decode cX12_init 404 = .ok (.putfield 177, 3) := by decide +kernel
theorem dX12_init_407 : decode cX12_init 407 = .ok (.aload_n 0, 1) := by decide +kernel
theorem dX12_init_408 : decode cX12_init 408 = .ok (.bipush 20, 2) := by decide +kernel
theorem dX12_init_410 : decode cX12_init 410 = .ok (.newarray .int, 2) := by decide +kernel
theorem dX12_init_412 : decode cX12_init 412 = .ok (.putfield 180, 3) := by decide +kernel
theorem dX12_init_415 : decode cX12_init 415 = .ok (.aload_n 0, 1) := by decide +kernel
theorem dX12_init_416 : decode cX12_init 416 = .ok (.bipush 6, 2) := by decide +kernel
theorem dX12_init_418 : decode cX12_init 418 = .ok (.newarray .int, 2) := by decide +kernel
theorem dX12_init_420 : decode cX12_init 420 = .ok (.dup, 1) := by decide +kernel
theorem dX12_init_421 : decode cX12_init 421 = .ok (.iconst 0, 1) := by decide +kernel
theorem dX12_init_422 : decode cX12_init 422 = .ok (.iconst (-1), 1) := by decide +kernel
theorem dX12_init_423 : decode cX12_init 423 = .ok (.iastore, 1) := by decide +kernel
theorem dX12_init_424 : decode cX12_init 424 = .ok (.dup, 1) := by decide +kernel
theorem dX12_init_425 : decode cX12_init 425 = .ok (.iconst 1, 1) := by decide +kernel
theorem dX12_init_426 : decode cX12_init 426 = .ok (.iconst (-1), 1) := by decide +kernel
theorem dX12_init_427 : decode cX12_init 427 = .ok (.iastore, 1) := by decide +kernel
theorem dX12_init_428 : decode cX12_init 428 = .ok (.dup, 1) := by decide +kernel
theorem dX12_init_429 : decode cX12_init 429 = .ok (.iconst 2, 1) := by decide +kernel
theorem dX12_init_430 : decode cX12_init 430 = .ok (.iconst (-1), 1) := by decide +kernel
theorem dX12_init_431 : decode cX12_init 431 = .ok (.iastore, 1) := by decide +kernel
theorem dX12_init_432 : decode cX12_init 432 = .ok (.dup, 1) := by decide +kernel
theorem dX12_init_433 : decode cX12_init 433 = .ok (.iconst 3, 1) := by decide +kernel
theorem dX12_init_434 : decode cX12_init 434 = .ok (.iconst (-1), 1) := by decide +kernel
theorem dX12_init_435 : decode cX12_init 435 = .ok (.iastore, 1) := by decide +kernel
theorem dX12_init_436 : decode cX12_init 436 = .ok (.dup, 1) := by decide +kernel
theorem dX12_init_437 : decode cX12_init 437 = .ok (.iconst 4, 1) := by decide +kernel
theorem dX12_init_438 : decode cX12_init 438 = .ok (.iconst (-1), 1) := by decide +kernel
theorem dX12_init_439 : decode cX12_init 439 = .ok (.iastore, 1) := by decide +kernel
theorem dX12_init_440 : decode cX12_init 440 = .ok (.dup, 1) := by decide +kernel
theorem dX12_init_441 : decode cX12_init 441 = .ok (.iconst 5, 1) := by decide +kernel
theorem dX12_init_442 : decode cX12_init 442 = .ok (.iconst (-1), 1) := by decide +kernel
theorem dX12_init_443 : decode cX12_init 443 = .ok (.iastore, 1) := by decide +kernel
theorem dX12_init_444 : decode cX12_init 444 = .ok (.putfield 183, 3) := by decide +kernel
theorem dX12_init_447 : decode cX12_init 447 = .ok (.aload_n 0, 1) := by decide +kernel
theorem dX12_init_448 : decode cX12_init 448 = .ok (.bipush 6, 2) := by decide +kernel
theorem dX12_init_450 : decode cX12_init 450 = .ok (.newarray .int, 2) := by decide +kernel
theorem dX12_init_452 : decode cX12_init 452 = .ok (.putfield 186, 3) := by decide +kernel
theorem dX12_init_455 : decode cX12_init 455 = .ok (.aload_n 0, 1) := by decide +kernel
theorem dX12_init_456 : decode cX12_init 456 = .ok (.sipush 360, 3) := by decide +kernel
theorem dX12_init_459 : decode cX12_init 459 = .ok (.newarray .int, 2) := by decide +kernel
theorem dX12_init_461 : decode cX12_init 461 = .ok (.putfield 189, 3) := by decide +kernel
theorem dX12_init_464 : decode cX12_init 464 = .ok (.aload_n 0, 1) := by decide +kernel
theorem dX12_init_465 : decode cX12_init 465 = .ok (.bipush 60, 2) := by decide +kernel
theorem dX12_init_467 : decode cX12_init 467 = .ok (.newarray .int, 2) := by decide +kernel
theorem dX12_init_469 : decode cX12_init 469 = .ok (.putfield 192, 3) := by decide +kernel
theorem dX12_init_472 : decode cX12_init 472 = .ok (.return_, 1) := by decide +kernel
theorem dX12_in_0 : decode cX12_in 0 = .ok (.iload_n 1, 1) := by decide +kernel
theorem dX12_in_1 : decode cX12_in 1 = .ok (.iload_n 2, 1) := by decide +kernel
theorem dX12_in_2 : decode cX12_in 2 = .ok (.if_icmp .lt 12, 3) := by decide +kernel
theorem dX12_in_5 : decode cX12_in 5 = .ok (.iload_n 1, 1) := by decide +kernel
theorem dX12_in_6 : decode cX12_in 6 = .ok (.iload_n 3, 1) := by decide +kernel
theorem dX12_in_7 : decode cX12_in 7 = .ok (.if_icmp .gt 7, 3) := by decide +kernel
theorem dX12_in_10 : decode cX12_in 10 = .ok (.iconst 1, 1) := by decide +kernel
theorem dX12_in_11 : decode cX12_in 11 = .ok (.goto 4, 3) := by decide +kernel
theorem dX12_in_14 : decode cX12_in 14 = .ok (.iconst 0, 1) := by decide +kernel
theorem dX12_in_15 : decode cX12_in 15 = .ok (.ireturn, 1) := by decide +kernel
theorem dX12_abs_0 : decode cX12_abs 0 = .ok (.iload_n 1, 1) := by decide +kernel
theorem dX12_abs_1 : decode cX12_abs 1 = .ok (.ifCond .ge 8, 3) := by decide +kernel
theorem dX12_abs_4 : decode cX12_abs 4 = .ok (.iload_n 1, 1) := by decide +kernel
theorem dX12_abs_5 : decode cX12_abs 5 = .ok (.ineg, 1) := by decide +kernel
theorem dX12_abs_6 : decode cX12_abs 6 = .ok (.goto 4, 3) := by decide +kernel
theorem dX12_abs_9 : decode cX12_abs 9 = .ok (.iload_n 1, 1) := by decide +kernel
theorem dX12_abs_10 : decode cX12_abs 10 = .ok (.ireturn, 1) := by decide +kernel
theorem dX12_isPerson_0 : decode cX12_isPerson 0 = .ok (.aload_n 0, 1) := by decide +kernel
theorem dX12_isPerson_1 : decode cX12_isPerson 1 = .ok (.iload_n 1, 1) := by decide +kernel
theorem dX12_isPerson_2 : decode cX12_isPerson 2 = .ok (.iconst 0, 1) := by decide +kernel
theorem dX12_isPerson_3 : decode cX12_isPerson 3 = .ok (.aload_n 0, 1) := by decide +kernel
theorem dX12_isPerson_4 : decode cX12_isPerson 4 = .ok (.getfield 7, 3) := by decide +kernel
theorem dX12_isPerson_7 : decode cX12_isPerson 7 = .ok (.iconst 1, 1) := by decide +kernel
theorem dX12_isPerson_8 : decode cX12_isPerson 8 = .ok (.isub, 1) := by decide +kernel
theorem dX12_isPerson_9 : decode cX12_isPerson 9 = .ok (.invokevirtual 195, 3) := by decide +kernel
theorem dX12_isPerson_12 : decode cX12_isPerson 12 = .ok (.ireturn, 1) := by decide +kernel
theorem dX12_isPlace_0 : decode cX12_isPlace 0 = .ok (.aload_n 0, 1) := by decide +kernel
theorem dX12_isPlace_1 : decode cX12_isPlace 1 = .ok (.iload_n 1, 1) := by decide +kernel
theorem dX12_isPlace_2 : decode cX12_isPlace 2 = .ok (.iconst 0, 1) := by decide +kernel
theorem dX12_isPlace_3 : decode cX12_isPlace 3 = .ok (.aload_n 0, 1) := by decide +kernel
theorem dX12_isPlace_4 : decode cX12_isPlace 4 = .ok (.getfield 13, 3) := by decide +kernel
theorem dX12_isPlace_7 : decode cX12_isPlace 7 = .ok (.iconst 1, 1) := by decide +kernel
theorem dX12_isPlace_8 : decode cX12_isPlace 8 = .ok (.isub, 1) := by decide +kernel
theorem dX12_isPlace_9 : decode cX12_isPlace 9 = .ok (.invokevirtual 195, 3) := by decide +kernel
theorem dX12_isPlace_12 : decode cX12_isPlace 12 = .ok (.ireturn, 1) := by decide +kernel
theorem dX12_person_0 : decode cX12_person 0 = .ok (.aload_n 0, 1) := by decide +kernel
theorem dX12_person_1 : decode cX12_person 1 = .ok (.iload_n 1, 1) := by decide +kernel
theorem dX12_person_2 : decode cX12_person 2 = .ok (.iconst 0, 1) := by decide +kernel
theorem dX12_person_3 : decode cX12_person 3 = .ok (.iconst 4, 1) := by decide +kernel
theorem dX12_person_4 : decode cX12_person 4 = .ok (.invokevirtual 195, 3) := by decide +kernel
theorem dX12_person_7 : decode cX12_person 7 = .ok (.ifCond .eq 25, 3) := by decide +kernel
theorem dX12_person_10 : decode cX12_person 10 = .ok (.aload_n 0, 1) := by decide +kernel
theorem dX12_person_11 : decode cX12_person 11 = .ok (.iload_n 2, 1) := by decide +kernel
theorem dX12_person_12 : decode cX12_person 12 = .ok (.iconst 1, 1) := by decide +kernel
theorem dX12_person_13 : decode cX12_person 13 = .ok (.bipush 20, 2) := by decide +kernel
theorem dX12_person_15 : decode cX12_person 15 = .ok (.invokevirtual 195, 3) := by decide +kernel
theorem dX12_person_18 : decode cX12_person 18 = .ok (.ifCond .eq 14, 3) := by decide +kernel
theorem dX12_person_21 : decode cX12_person 21 = .ok (.aload_n 0, 1) := by decide +kernel
theorem dX12_person_22 : decode cX12_person 22 = .ok (.iload_n 3, 1) := by decide +kernel
theorem dX12_person_23 : decode cX12_person 23 = .ok (.iconst 1, 1) := by decide +kernel
theorem dX12_person_24 : decode cX12_person 24 = .ok (.bipush 9, 2) := by decide +kernel
theorem dX12_person_26 : decode cX12_person 26 = .ok (.invokevirtual 195, 3) := by decide +kernel
theorem dX12_person_29 : decode cX12_person 29 = .ok (.ifCond .ne 6, 3) := by decide +kernel
theorem dX12_person_32 : decode cX12_person 32 = .ok (.bipush (-2), 2) := by decide +kernel
theorem dX12_person_34 : decode cX12_person 34 = .ok (.ireturn, 1) := by decide +kernel
theorem dX12_person_35 : decode cX12_person 35 = .ok (.aload_n 0, 1) := by decide +kernel
theorem dX12_person_36 : decode cX12_person 36 = .ok (.getfield 7, 3) := by decide +kernel
theorem dX12_person_39 : decode cX12_person 39 = .ok (.bipush 15, 2) := by decide +kernel
theorem dX12_person_41 : decode cX12_person 41 = .ok (.if_icmp .ne 6, 3) := by decide +kernel
theorem dX12_person_44 : decode cX12_person 44 = .ok (.bipush (-4), 2) := by decide +kernel
theorem dX12_person_46 : decode cX12_person 46 = .ok (.ireturn, 1) := by decide +kernel
theorem dX12_person_47 : decode cX12_person 47 = .ok (.aload_n 0, 1) := by decide +kernel
theorem dX12_person_48 : decode cX12_person 48 = .ok (.getfield 16, 3) := by decide +kernel
theorem dX12_person_51 : decode cX12_person 51 = .ok (.aload_n 0, 1) := by decide +kernel
theorem dX12_person_52 : decode cX12_person 52 = .ok (.getfield 7, 3) := by decide +kernel
theorem dX12_person_55 : decode cX12_person 55 = .ok (.iload_n 1, 1) := by decide +kernel
theorem dX12_person_56 : decode cX12_person 56 = .ok (.iastore, 1) := by decide +kernel
theorem dX12_person_57 : decode cX12_person 57 = .ok (.aload_n 0, 1) := by decide +kernel
theorem dX12_person_58 : decode cX12_person 58 = .ok (.getfield 20, 3) := by decide +kernel
theorem dX12_person_61 : decode cX12_person 61 = .ok (.aload_n 0, 1) := by decide +kernel
theorem dX12_person_62 : decode cX12_person 62 = .ok (.getfield 7, 3) := by decide +kernel
theorem dX12_person_65 : decode cX12_person 65 = .ok (.iload_n 2, 1) := by decide +kernel
theorem dX12_person_66 : decode cX12_person 66 = .ok (.iastore, 1) := by decide +kernel
theorem dX12_person_67 : decode cX12_person 67 = .ok (.aload_n 0, 1) := by decide +kernel
theorem dX12_person_68 : decode cX12_person 68 = .ok (.getfield 23, 3) := by decide +kernel
theorem dX12_person_71 : decode cX12_person 71 = .ok (.aload_n 0, 1) := by decide +kernel
theorem dX12_person_72 : decode cX12_person 72 = .ok (.getfield 7, 3) := by decide +kernel
theorem dX12_person_75 : decode cX12_person 75 = .ok (.iload_n 3, 1) := by decide +kernel
theorem dX12_person_76 : decode cX12_person 76 = .ok (.iastore, 1) := by decide +kernel
theorem dX12_person_77 : decode cX12_person 77 = .ok (.aload_n 0, 1) := by decide +kernel
theorem dX12_person_78 : decode cX12_person 78 = .ok (.dup, 1) := by decide +kernel
theorem dX12_person_79 : decode cX12_person 79 = .ok (.getfield 7, 3) := by decide +kernel
theorem dX12_person_82 : decode cX12_person 82 = .ok (.iconst 1, 1) := by decide +kernel
theorem dX12_person_83 : decode cX12_person 83 = .ok (.iadd, 1) := by decide +kernel
theorem dX12_person_84 : decode cX12_person 84 = .ok (.putfield 7, 3) := by decide +kernel
theorem dX12_person_87 : decode cX12_person 87 = .ok (.aload_n 0, 1) := by decide +kernel
theorem dX12_person_88 : decode cX12_person 88 = .ok (.getfield 7, 3) := by decide +kernel
theorem dX12_person_91 : decode cX12_person 91 = .ok (.iconst 1, 1) := by decide +kernel
theorem dX12_person_92 : decode cX12_person 92 = .ok (.isub, 1) := by decide +kernel
theorem dX12_person_93 : decode cX12_person 93 = .ok (.ireturn, 1) := by decide +kernel
theorem dX12_ring_0 : decode cX12_ring 0 = .ok (.aload_n 0, 1) := by decide +kernel
theorem dX12_ring_1 : decode cX12_ring 1 = .ok (.iload_n 1, 1) := by decide +kernel
theorem dX12_ring_2 : decode cX12_ring 2 = .ok (.iconst 3, 1) := by decide +kernel
theorem dX12_ring_3 : decode cX12_ring 3 = .ok (.bipush 9, 2) := by decide +kernel
theorem dX12_ring_5 : decode cX12_ring 5 = .ok (.invokevirtual 195, 3) := by decide +kernel
theorem dX12_ring_8 : decode cX12_ring 8 = .ok (.ifCond .ne 6, 3) := by decide +kernel
theorem dX12_ring_11 : decode cX12_ring 11 = .ok (.bipush (-2), 2) := by decide +kernel
theorem dX12_ring_13 : decode cX12_ring 13 = .ok (.ireturn, 1) := by decide +kernel
theorem dX12_ring_14 : decode cX12_ring 14 = .ok (.aload_n 0, 1) := by decide +kernel
theorem dX12_ring_15 : decode cX12_ring 15 = .ok (.getfield 44, 3) := by decide +kernel
theorem dX12_ring_18 : decode cX12_ring 18 = .ok (.ifCond .eq 6, 3) := by decide +kernel
theorem dX12_ring_21 : decode cX12_ring 21 = .ok (.bipush (-3), 2) := by decide +kernel
theorem dX12_ring_23 : decode cX12_ring 23 = .ok (.ireturn, 1) := by decide +kernel
theorem dX12_ring_24 : decode cX12_ring 24 = .ok (.aload_n 0, 1) := by decide +kernel
theorem dX12_ring_25 : decode cX12_ring 25 = .ok (.iload_n 1, 1) := by decide +kernel
theorem dX12_ring_26 : decode cX12_ring 26 = .ok (.putfield 13, 3) := by decide +kernel
theorem dX12_ring_29 : decode cX12_ring 29 = .ok (.aload_n 0, 1) := by decide +kernel
theorem dX12_ring_30 : decode cX12_ring 30 = .ok (.iconst 0, 1) := by decide +kernel
theorem dX12_ring_31 : decode cX12_ring 31 = .ok (.putfield 54, 3) := by decide +kernel
theorem dX12_ring_34 : decode cX12_ring 34 = .ok (.aload_n 0, 1) := by decide +kernel
theorem dX12_ring_35 : decode cX12_ring 35 = .ok (.iconst 0, 1) := by decide +kernel
theorem dX12_ring_36 : decode cX12_ring 36 = .ok (.putfield 57, 3) := by decide +kernel
theorem dX12_ring_39 : decode cX12_ring 39 = .ok (.iconst 0, 1) := by decide +kernel
theorem dX12_ring_40 : decode cX12_ring 40 = .ok (.istore_n 2, 1) := by decide +kernel
theorem dX12_ring_41 : decode cX12_ring 41 = .ok (.iload_n 2, 1) := by decide +kernel
theorem dX12_ring_42 : decode cX12_ring 42 = .ok (.bipush 9, 2) := by decide +kernel
theorem dX12_ring_44 : decode cX12_ring 44 = .ok (.if_icmp .ge 45, 3) := by decide +kernel
theorem dX12_ring_47 : decode cX12_ring 47 = .ok (.aload_n 0, 1) := by decide +kernel
theorem dX12_ring_48 : decode cX12_ring 48 = .ok (.getfield 26, 3) := by decide +kernel
theorem dX12_ring_51 : decode cX12_ring 51 = .ok (.iload_n 2, 1) := by decide +kernel
theorem dX12_ring_52 : decode cX12_ring 52 = .ok (.bipush (-5), 2) := by decide +kernel
theorem dX12_ring_54 : decode cX12_ring 54 = .ok (.iastore, 1) := by decide +kernel
theorem dX12_ring_55 : decode cX12_ring 55 = .ok (.aload_n 0, 1) := by decide +kernel
theorem dX12_ring_56 : decode cX12_ring 56 = .ok (.getfield 29, 3) := by decide +kernel
theorem dX12_ring_59 : decode cX12_ring 59 = .ok (.iload_n 2, 1) := by decide +kernel
theorem dX12_ring_60 : decode cX12_ring 60 = .ok (.iload_n 2, 1) := by decide +kernel
theorem dX12_ring_61 : decode cX12_ring 61 = .ok (.iastore, 1) := by decide +kernel
theorem dX12_ring_62 : decode cX12_ring 62 = .ok (.aload_n 0, 1) := by decide +kernel
theorem dX12_ring_63 : decode cX12_ring 63 = .ok (.getfield 32, 3) := by decide +kernel
theorem dX12_ring_66 : decode cX12_ring 66 = .ok (.iload_n 2, 1) := by decide +kernel
theorem dX12_ring_67 : decode cX12_ring 67 = .ok (.iconst 0, 1) := by decide +kernel
theorem dX12_ring_68 : decode cX12_ring 68 = .ok (.iastore, 1) := by decide +kernel
theorem dX12_ring_69 : decode cX12_ring 69 = .ok (.aload_n 0, 1) := by decide +kernel
theorem dX12_ring_70 : decode cX12_ring 70 = .ok (.getfield 35, 3) := by decide +kernel
theorem dX12_ring_73 : decode cX12_ring 73 = .ok (.iload_n 2, 1) := by decide +kernel
theorem dX12_ring_74 : decode cX12_ring 74 = .ok (.iconst 0, 1) := by decide +kernel
theorem dX12_ring_75 : decode cX12_ring 75 = .ok (.iastore, 1) := by decide +kernel
theorem dX12_ring_76 : decode cX12_ring 76 = .ok (.aload_n 0, 1) := by decide +kernel
theorem dX12_ring_77 : decode cX12_ring 77 = .ok (.getfield 63, 3) := by decide +kernel
theorem dX12_ring_80 : decode cX12_ring 80 = .ok (.iload_n 2, 1) := by decide +kernel
theorem dX12_ring_81 : decode cX12_ring 81 = .ok (.iconst 0, 1) := by decide +kernel
theorem dX12_ring_82 : decode cX12_ring 82 = .ok (.iastore, 1) := by decide +kernel
theorem dX12_ring_83 : decode cX12_ring 83 = .ok (.iinc 2 1, 3) := by decide +kernel
theorem dX12_ring_86 : decode cX12_ring 86 = .ok (.goto (-45), 3) := by decide +kernel
theorem dX12_ring_89 : decode cX12_ring 89 = .ok (.iconst 1, 1) := by decide +kernel
theorem dX12_ring_90 : decode cX12_ring 90 = .ok (.ireturn, 1) := by decide +kernel
theorem dX12_stand_0 : decode cX12_stand 0 = .ok (.aload_n 0, 1) := by decide +kernel
theorem dX12_stand_1 : decode cX12_stand 1 = .ok (.iload_n 1, 1) := by decide +kernel
theorem dX12_stand_2 : decode cX12_stand 2 = .ok (.invokevirtual 199, 3) := by decide +kernel
theorem dX12_stand_5 : decode cX12_stand 5 = .ok (.ifCond .eq 11, 3) := by decide +kernel
theorem dX12_stand_8 : decode cX12_stand 8 = .ok (.aload_n 0, 1) := by decide +kernel
theorem dX12_stand_9 : decode cX12_stand 9 = .ok (.iload_n 2, 1) := by decide +kernel
theorem dX12_stand_10 : decode cX12_stand 10 = .ok (.invokevirtual 203, 3) := by decide +kernel
theorem dX12_stand_13 : decode cX12_stand 13 = .ok (.ifCond .ne 5, 3) := by decide +kernel
theorem dX12_stand_16 : decode cX12_stand 16 = .ok (.iconst (-1), 1) := by decide +kernel
theorem dX12_stand_17 : decode cX12_stand 17 = .ok (.ireturn, 1) := by decide +kernel
theorem dX12_stand_18 : decode cX12_stand 18 = .ok (.aload_n 0, 1) := by decide +kernel
theorem dX12_stand_19 : decode cX12_stand 19 = .ok (.getfield 44, 3) := by decide +kernel
theorem dX12_stand_22 : decode cX12_stand 22 = .ok (.ifCond .eq 6, 3) := by decide +kernel
theorem dX12_stand_25 : decode cX12_stand 25 = .ok (.bipush (-3), 2) := by decide +kernel
theorem dX12_stand_27 : decode cX12_stand 27 = .ok (.ireturn, 1) := by decide +kernel
theorem dX12_stand_28 : decode cX12_stand 28 = .ok (.iconst 0, 1) := by decide +kernel
theorem dX12_stand_29 : decode cX12_stand 29 = .ok (.istore_n 3, 1) := by decide +kernel
theorem dX12_stand_30 : decode cX12_stand 30 = .ok (.iload_n 3, 1) := by decide +kernel
theorem dX12_stand_31 : decode cX12_stand 31 = .ok (.aload_n 0, 1) := by decide +kernel
theorem dX12_stand_32 : decode cX12_stand 32 = .ok (.getfield 13, 3) := by decide +kernel
theorem dX12_stand_35 : decode cX12_stand 35 = .ok (.if_icmp .ge 22, 3) := by decide +kernel
theorem dX12_stand_38 : decode cX12_stand 38 = .ok (.aload_n 0, 1) := by decide +kernel
theorem dX12_stand_39 : decode cX12_stand 39 = .ok (.getfield 26, 3) := by decide +kernel
theorem dX12_stand_42 : decode cX12_stand 42 = .ok (.iload_n 3, 1) := by decide +kernel
theorem dX12_stand_43 : decode cX12_stand 43 = .ok (.iaload, 1) := by decide +kernel
theorem dX12_stand_44 : decode cX12_stand 44 = .ok (.iload_n 2, 1) := by decide +kernel
theorem dX12_stand_45 : decode cX12_stand 45 = .ok (.if_icmp .ne 6, 3) := by decide +kernel
theorem dX12_stand_48 : decode cX12_stand 48 = .ok (.bipush (-3), 2) := by decide +kernel
theorem dX12_stand_50 : decode cX12_stand 50 = .ok (.ireturn, 1) := by decide +kernel
theorem dX12_stand_51 : decode cX12_stand 51 = .ok (.iinc 3 1, 3) := by decide +kernel
theorem dX12_stand_54 : decode cX12_stand 54 = .ok (.goto (-24), 3) := by decide +kernel
theorem dX12_stand_57 : decode cX12_stand 57 = .ok (.aload_n 0, 1) := by decide +kernel
theorem dX12_stand_58 : decode cX12_stand 58 = .ok (.getfield 16, 3) := by decide +kernel
theorem dX12_stand_61 : decode cX12_stand 61 = .ok (.iload_n 2, 1) := by decide +kernel
theorem dX12_stand_62 : decode cX12_stand 62 = .ok (.iaload, 1) := by decide +kernel
theorem dX12_stand_63 : decode cX12_stand 63 = .ok (.iconst 4, 1) := by decide +kernel
theorem dX12_stand_64 : decode cX12_stand 64 = .ok (.if_icmp .ne 6, 3) := by decide +kernel
theorem dX12_stand_67 : decode cX12_stand 67 = .ok (.bipush (-12), 2) := by decide +kernel
theorem dX12_stand_69 : decode cX12_stand 69 = .ok (.ireturn, 1) := by decide +kernel
theorem dX12_stand_70 : decode cX12_stand 70 = .ok (.aload_n 0, 1) := by decide +kernel
theorem dX12_stand_71 : decode cX12_stand 71 = .ok (.getfield 26, 3) := by decide +kernel
theorem dX12_stand_74 : decode cX12_stand 74 = .ok (.iload_n 1, 1) := by decide +kernel
theorem dX12_stand_75 : decode cX12_stand 75 = .ok (.iaload, 1) := by decide +kernel
theorem dX12_stand_76 : decode cX12_stand 76 = .ok (.istore_n 3, 1) := by decide +kernel
theorem dX12_stand_77 : decode cX12_stand 77 = .ok (.aload_n 0, 1) := by decide +kernel
theorem dX12_stand_78 : decode cX12_stand 78 = .ok (.getfield 26, 3) := by decide +kernel
theorem dX12_stand_81 : decode cX12_stand 81 = .ok (.iload_n 1, 1) := by decide +kernel
theorem dX12_stand_82 : decode cX12_stand 82 = .ok (.iload_n 2, 1) := by decide +kernel
theorem dX12_stand_83 : decode cX12_stand 83 = .ok (.iastore, 1) := by decide +kernel
theorem dX12_stand_84 : decode cX12_stand 84 = .ok (.iload_n 3, 1) := by decide +kernel
theorem dX12_stand_85 : decode cX12_stand 85 = .ok (.ireturn, 1) := by decide +kernel
theorem dX12_ribbon_0 : decode cX12_ribbon 0 = .ok (.aload_n 0, 1) := by decide +kernel
theorem dX12_ribbon_1 : decode cX12_ribbon 1 = .ok (.iload_n 1, 1) := by decide +kernel
theorem dX12_ribbon_2 : decode cX12_ribbon 2 = .ok (.invokevirtual 199, 3) := by decide +kernel
theorem dX12_ribbon_5 : decode cX12_ribbon 5 = .ok (.ifCond .ne 5, 3) := by decide +kernel
theorem dX12_ribbon_8 : decode cX12_ribbon 8 = .ok (.iconst (-1), 1) := by decide +kernel
theorem dX12_ribbon_9 : decode cX12_ribbon 9 = .ok (.ireturn, 1) := by decide +kernel
theorem dX12_ribbon_10 : decode cX12_ribbon 10 = .ok (.aload_n 0, 1) := by decide +kernel
theorem dX12_ribbon_11 : decode cX12_ribbon 11 = .ok (.iload_n 2, 1) := by decide +kernel
theorem dX12_ribbon_12 : decode cX12_ribbon 12 = .ok (.iconst 0, 1) := by decide +kernel
theorem dX12_ribbon_13 : decode cX12_ribbon 13 = .ok (.bipush 7, 2) := by decide +kernel
theorem dX12_ribbon_15 : decode cX12_ribbon 15 = .ok (.invokevirtual 195, 3) := by decide +kernel
theorem dX12_ribbon_18 : decode cX12_ribbon 18 = .ok (.ifCond .eq 14, 3) := by decide +kernel
theorem dX12_ribbon_21 : decode cX12_ribbon 21 = .ok (.aload_n 0, 1) := by decide +kernel
theorem dX12_ribbon_22 : decode cX12_ribbon 22 = .ok (.iload_n 3, 1) := by decide +kernel
theorem dX12_ribbon_23 : decode cX12_ribbon 23 = .ok (.iconst 0, 1) := by decide +kernel
theorem dX12_ribbon_24 : decode cX12_ribbon 24 = .ok (.ldc 206, 2) := by decide +kernel
theorem dX12_ribbon_26 : decode cX12_ribbon 26 = .ok (.invokevirtual 195, 3) := by decide +kernel
theorem dX12_ribbon_29 : decode cX12_ribbon 29 = .ok (.ifCond .ne 6, 3) := by decide +kernel
theorem dX12_ribbon_32 : decode cX12_ribbon 32 = .ok (.bipush (-2), 2) := by decide +kernel
theorem dX12_ribbon_34 : decode cX12_ribbon 34 = .ok (.ireturn, 1) := by decide +kernel
theorem dX12_ribbon_35 : decode cX12_ribbon 35 = .ok (.aload_n 0, 1) := by decide +kernel
theorem dX12_ribbon_36 : decode cX12_ribbon 36 = .ok (.getfield 44, 3) := by decide +kernel
theorem dX12_ribbon_39 : decode cX12_ribbon 39 = .ok (.ifCond .eq 6, 3) := by decide +kernel
theorem dX12_ribbon_42 : decode cX12_ribbon 42 = .ok (.bipush (-3), 2) := by decide +kernel
theorem dX12_ribbon_44 : decode cX12_ribbon 44 = .ok (.ireturn, 1) := by decide +kernel
theorem dX12_ribbon_45 : decode cX12_ribbon 45 = .ok (.aload_n 0, 1) := by decide +kernel
theorem dX12_ribbon_46 : decode cX12_ribbon 46 = .ok (.getfield 32, 3) := by decide +kernel
theorem dX12_ribbon_49 : decode cX12_ribbon 49 = .ok (.iload_n 1, 1) := by decide +kernel
theorem dX12_ribbon_50 : decode cX12_ribbon 50 = .ok (.iload_n 2, 1) := by decide +kernel
theorem dX12_ribbon_51 : decode cX12_ribbon 51 = .ok (.iastore, 1) := by decide +kernel
theorem dX12_ribbon_52 : decode cX12_ribbon 52 = .ok (.aload_n 0, 1) := by decide +kernel
theorem dX12_ribbon_53 : decode cX12_ribbon 53 = .ok (.getfield 35, 3) := by decide +kernel
theorem dX12_ribbon_56 : decode cX12_ribbon 56 = .ok (.iload_n 1, 1) := by decide +kernel
theorem dX12_ribbon_57 : decode cX12_ribbon 57 = .ok (.iload_n 3, 1) := by decide +kernel
theorem dX12_ribbon_58 : decode cX12_ribbon 58 = .ok (.iastore, 1) := by decide +kernel
theorem dX12_ribbon_59 : decode cX12_ribbon 59 = .ok (.iconst 1, 1) := by decide +kernel
theorem dX12_ribbon_60 : decode cX12_ribbon 60 = .ok (.ireturn, 1) := by decide +kernel
theorem dX12_at_0 : decode cX12_at 0 = .ok (.aload_n 0, 1) := by decide +kernel
theorem dX12_at_1 : decode cX12_at 1 = .ok (.iload_n 1, 1) := by decide +kernel
theorem dX12_at_2 : decode cX12_at 2 = .ok (.invokevirtual 199, 3) := by decide +kernel
theorem dX12_at_5 : decode cX12_at 5 = .ok (.ifCond .eq 13, 3) := by decide +kernel
theorem dX12_at_8 : decode cX12_at 8 = .ok (.aload_n 0, 1) := by decide +kernel
theorem dX12_at_9 : decode cX12_at 9 = .ok (.iload_n 2, 1) := by decide +kernel
theorem dX12_at_10 : decode cX12_at 10 = .ok (.iconst 0, 1) := by decide +kernel
theorem dX12_at_11 : decode cX12_at 11 = .ok (.iconst 3, 1) := by decide +kernel
theorem dX12_at_12 : decode cX12_at 12 = .ok (.invokevirtual 195, 3) := by decide +kernel
theorem dX12_at_15 : decode cX12_at 15 = .ok (.ifCond .ne 6, 3) := by decide +kernel
theorem dX12_at_18 : decode cX12_at 18 = .ok (.bipush (-6), 2) := by decide +kernel
theorem dX12_at_20 : decode cX12_at 20 = .ok (.ireturn, 1) := by decide +kernel
theorem dX12_at_21 : decode cX12_at 21 = .ok (.iload_n 2, 1) := by decide +kernel
theorem dX12_at_22 : decode cX12_at 22 = .ok (.ifCond .ne 12, 3) := by decide +kernel
theorem dX12_at_25 : decode cX12_at 25 = .ok (.aload_n 0, 1) := by decide +kernel
theorem dX12_at_26 : decode cX12_at 26 = .ok (.getfield 26, 3) := by decide +kernel
theorem dX12_at_29 : decode cX12_at 29 = .ok (.iload_n 1, 1) := by decide +kernel
theorem dX12_at_30 : decode cX12_at 30 = .ok (.iaload, 1) := by decide +kernel
theorem dX12_at_31 : decode cX12_at 31 = .ok (.goto 47, 3) := by decide +kernel
theorem dX12_at_34 : decode cX12_at 34 = .ok (.iload_n 2, 1) := by decide +kernel
theorem dX12_at_35 : decode cX12_at 35 = .ok (.iconst 1, 1) := by decide +kernel
theorem dX12_at_36 : decode cX12_at 36 = .ok (.if_icmp .ne 17, 3) := by decide +kernel
theorem dX12_at_39 : decode cX12_at 39 = .ok (.aload_n 0, 1) := by decide +kernel
theorem dX12_at_40 : decode cX12_at 40 = .ok (.getfield 32, 3) := by decide +kernel
theorem dX12_at_43 : decode cX12_at 43 = .ok (.aload_n 0, 1) := by decide +kernel
theorem dX12_at_44 : decode cX12_at 44 = .ok (.getfield 29, 3) := by decide +kernel
theorem dX12_at_47 : decode cX12_at 47 = .ok (.iload_n 1, 1) := by decide +kernel
theorem dX12_at_48 : decode cX12_at 48 = .ok (.iaload, 1) := by decide +kernel
theorem dX12_at_49 : decode cX12_at 49 = .ok (.iaload, 1) := by decide +kernel
theorem dX12_at_50 : decode cX12_at 50 = .ok (.goto 28, 3) := by decide +kernel
theorem dX12_at_53 : decode cX12_at 53 = .ok (.iload_n 2, 1) := by decide +kernel
theorem dX12_at_54 : decode cX12_at 54 = .ok (.iconst 2, 1) := by decide +kernel
theorem dX12_at_55 : decode cX12_at 55 = .ok (.if_icmp .ne 17, 3) := by decide +kernel
theorem dX12_at_58 : decode cX12_at 58 = .ok (.aload_n 0, 1) := by decide +kernel
theorem dX12_at_59 : decode cX12_at 59 = .ok (.getfield 35, 3) := by decide +kernel
theorem dX12_at_62 : decode cX12_at 62 = .ok (.aload_n 0, 1) := by decide +kernel
theorem dX12_at_63 : decode cX12_at 63 = .ok (.getfield 29, 3) := by decide +kernel
theorem dX12_at_66 : decode cX12_at 66 = .ok (.iload_n 1, 1) := by decide +kernel
theorem dX12_at_67 : decode cX12_at 67 = .ok (.iaload, 1) := by decide +kernel
theorem dX12_at_68 : decode cX12_at 68 = .ok (.iaload, 1) := by decide +kernel
theorem dX12_at_69 : decode cX12_at 69 = .ok (.goto 9, 3) := by decide +kernel
theorem dX12_at_72 : decode cX12_at 72 = .ok (.aload_n 0, 1) := by decide +kernel
theorem dX12_at_73 : decode cX12_at 73 = .ok (.getfield 29, 3) := by decide +kernel
theorem dX12_at_76 : decode cX12_at 76 = .ok (.iload_n 1, 1) := by decide +kernel
theorem dX12_at_77 : decode cX12_at 77 = .ok (.iaload, 1) := by decide +kernel
theorem dX12_at_78 : decode cX12_at 78 = .ok (.ireturn, 1) := by decide +kernel
theorem dX12_begin_0 : decode cX12_begin 0 = .ok (.aload_n 0, 1) := by decide +kernel
theorem dX12_begin_1 : decode cX12_begin 1 = .ok (.getfield 44, 3) := by decide +kernel
theorem dX12_begin_4 : decode cX12_begin 4 = .ok (.ifCond .ne 10, 3) := by decide +kernel
theorem dX12_begin_7 : decode cX12_begin 7 = .ok (.aload_n 0, 1) := by decide +kernel
theorem dX12_begin_8 : decode cX12_begin 8 = .ok (.getfield 13, 3) := by decide +kernel
theorem dX12_begin_11 : decode cX12_begin 11 = .ok (.ifCond .ne 6, 3) := by decide +kernel
theorem dX12_begin_14 : decode cX12_begin 14 = .ok (.bipush (-3), 2) := by decide +kernel
theorem dX12_begin_16 : decode cX12_begin 16 = .ok (.ireturn, 1) := by decide +kernel
theorem dX12_begin_17 : decode cX12_begin 17 = .ok (.iconst 0, 1) := by decide +kernel
theorem dX12_begin_18 : decode cX12_begin 18 = .ok (.istore_n 1, 1) := by decide +kernel
theorem dX12_begin_19 : decode cX12_begin 19 = .ok (.iload_n 1, 1) := by decide +kernel
theorem dX12_begin_20 : decode cX12_begin 20 = .ok (.aload_n 0, 1) := by decide +kernel
theorem dX12_begin_21 : decode cX12_begin 21 = .ok (.getfield 13, 3) := by decide +kernel
theorem dX12_begin_24 : decode cX12_begin 24 = .ok (.if_icmp .ge 23, 3) := by decide +kernel
theorem dX12_begin_27 : decode cX12_begin 27 = .ok (.aload_n 0, 1) := by decide +kernel
theorem dX12_begin_28 : decode cX12_begin 28 = .ok (.getfield 26, 3) := by decide +kernel
theorem dX12_begin_31 : decode cX12_begin 31 = .ok (.iload_n 1, 1) := by decide +kernel
theorem dX12_begin_32 : decode cX12_begin 32 = .ok (.iaload, 1) := by decide +kernel
theorem dX12_begin_33 : decode cX12_begin 33 = .ok (.bipush (-5), 2) := by decide +kernel
theorem dX12_begin_35 : decode cX12_begin 35 = .ok (.if_icmp .ne 6, 3) := by decide +kernel
theorem dX12_begin_38 : decode cX12_begin 38 = .ok (.bipush (-3), 2) := by decide +kernel
theorem dX12_begin_40 : decode cX12_begin 40 = .ok (.ireturn, 1) := by decide +kernel
theorem dX12_begin_41 : decode cX12_begin 41 = .ok (.iinc 1 1, 3) := by decide +kernel
theorem dX12_begin_44 : decode cX12_begin 44 = .ok (.goto (-25), 3) := by decide +kernel
theorem dX12_begin_47 : decode cX12_begin 47 = .ok (.aload_n 0, 1) := by decide +kernel
theorem dX12_begin_48 : decode cX12_begin 48 = .ok (.iconst 1, 1) := by decide +kernel
theorem dX12_begin_49 : decode cX12_begin 49 = .ok (.putfield 44, 3) := by decide +kernel
theorem dX12_begin_52 : decode cX12_begin 52 = .ok (.aload_n 0, 1) := by decide +kernel
theorem dX12_begin_53 : decode cX12_begin 53 = .ok (.iconst 0, 1) := by decide +kernel
theorem dX12_begin_54 : decode cX12_begin 54 = .ok (.putfield 54, 3) := by decide +kernel
theorem dX12_begin_57 : decode cX12_begin 57 = .ok (.aload_n 0, 1) := by decide +kernel
theorem dX12_begin_58 : decode cX12_begin 58 = .ok (.iconst 0, 1) := by decide +kernel
theorem dX12_begin_59 : decode cX12_begin 59 = .ok (.putfield 57, 3) := by decide +kernel
theorem dX12_begin_62 : decode cX12_begin 62 = .ok (.iconst 0, 1) := by decide +kernel
theorem dX12_begin_63 : decode cX12_begin 63 = .ok (.istore_n 1, 1) := by decide +kernel
theorem dX12_begin_64 : decode cX12_begin 64 = .ok (.iload_n 1, 1) := by decide +kernel
theorem dX12_begin_65 : decode cX12_begin 65 = .ok (.aload_n 0, 1) := by decide +kernel
theorem dX12_begin_66 : decode cX12_begin 66 = .ok (.getfield 13, 3) := by decide +kernel
theorem dX12_begin_69 : decode cX12_begin 69 = .ok (.if_icmp .ge 40, 3) := by decide +kernel
theorem dX12_begin_72 : decode cX12_begin 72 = .ok (.aload_n 0, 1) := by decide +kernel
theorem dX12_begin_73 : decode cX12_begin 73 = .ok (.getfield 38, 3) := by decide +kernel
theorem dX12_begin_76 : decode cX12_begin 76 = .ok (.iload_n 1, 1) := by decide +kernel
theorem dX12_begin_77 : decode cX12_begin 77 = .ok (.aload_n 0, 1) := by decide +kernel
theorem dX12_begin_78 : decode cX12_begin 78 = .ok (.getfield 35, 3) := by decide +kernel
theorem dX12_begin_81 : decode cX12_begin 81 = .ok (.iload_n 1, 1) := by decide +kernel
theorem dX12_begin_82 : decode cX12_begin 82 = .ok (.iaload, 1) := by decide +kernel
theorem dX12_begin_83 : decode cX12_begin 83 = .ok (.iastore, 1) := by decide +kernel
theorem dX12_begin_84 : decode cX12_begin 84 = .ok (.aload_n 0, 1) := by decide +kernel
theorem dX12_begin_85 : decode cX12_begin 85 = .ok (.getfield 41, 3) := by decide +kernel
theorem dX12_begin_88 : decode cX12_begin 88 = .ok (.iload_n 1, 1) := by decide +kernel
theorem dX12_begin_89 : decode cX12_begin 89 = .ok (.aload_n 0, 1) := by decide +kernel
theorem dX12_begin_90 : decode cX12_begin 90 = .ok (.getfield 32, 3) := by decide +kernel
theorem dX12_begin_93 : decode cX12_begin 93 = .ok (.iload_n 1, 1) := by decide +kernel
theorem dX12_begin_94 : decode cX12_begin 94 = .ok (.iaload, 1) := by decide +kernel
theorem dX12_begin_95 : decode cX12_begin 95 = .ok (.iastore, 1) := by decide +kernel
theorem dX12_begin_96 : decode cX12_begin 96 = .ok (.aload_n 0, 1) := by decide +kernel
theorem dX12_begin_97 : decode cX12_begin 97 = .ok (.getfield 63, 3) := by decide +kernel
theorem dX12_begin_100 : decode cX12_begin 100 = .ok (.iload_n 1, 1) := by decide +kernel
theorem dX12_begin_101 : decode cX12_begin 101 = .ok (.iconst 0, 1) := by decide +kernel
theorem dX12_begin_102 : decode cX12_begin 102 = .ok (.iastore, 1) := by decide +kernel
theorem dX12_begin_103 : decode cX12_begin 103 = .ok (.iinc 1 1, 3) := by decide +kernel
theorem dX12_begin_106 : decode cX12_begin 106 = .ok (.goto (-42), 3) := by decide +kernel
theorem dX12_begin_109 : decode cX12_begin 109 = .ok (.aload_n 0, 1) := by decide +kernel
theorem dX12_begin_110 : decode cX12_begin 110 = .ok (.getfield 13, 3) := by decide +kernel
theorem dX12_begin_113 : decode cX12_begin 113 = .ok (.ireturn, 1) := by decide +kernel
theorem dX12_end_0 : decode cX12_end 0 = .ok (.aload_n 0, 1) := by decide +kernel
theorem dX12_end_1 : decode cX12_end 1 = .ok (.getfield 44, 3) := by decide +kernel
theorem dX12_end_4 : decode cX12_end 4 = .ok (.ifCond .ne 6, 3) := by decide +kernel
theorem dX12_end_7 : decode cX12_end 7 = .ok (.bipush (-3), 2) := by decide +kernel
theorem dX12_end_9 : decode cX12_end 9 = .ok (.ireturn, 1) := by decide +kernel
theorem dX12_end_10 : decode cX12_end 10 = .ok (.aload_n 0, 1) := by decide +kernel
theorem dX12_end_11 : decode cX12_end 11 = .ok (.iconst 0, 1) := by decide +kernel
theorem dX12_end_12 : decode cX12_end 12 = .ok (.putfield 44, 3) := by decide +kernel
theorem dX12_end_15 : decode cX12_end 15 = .ok (.iconst 0, 1) := by decide +kernel
theorem dX12_end_16 : decode cX12_end 16 = .ok (.istore_n 1, 1) := by decide +kernel
theorem dX12_end_17 : decode cX12_end 17 = .ok (.iload_n 1, 1) := by decide +kernel
theorem dX12_end_18 : decode cX12_end 18 = .ok (.aload_n 0, 1) := by decide +kernel
theorem dX12_end_19 : decode cX12_end 19 = .ok (.getfield 13, 3) := by decide +kernel
theorem dX12_end_22 : decode cX12_end 22 = .ok (.if_icmp .ge 43, 3) := by decide +kernel
theorem dX12_end_25 : decode cX12_end 25 = .ok (.aload_n 0, 1) := by decide +kernel
theorem dX12_end_26 : decode cX12_end 26 = .ok (.getfield 48, 3) := by decide +kernel
theorem dX12_end_29 : decode cX12_end 29 = .ok (.iload_n 1, 1) := by decide +kernel
theorem dX12_end_30 : decode cX12_end 30 = .ok (.aload_n 0, 1) := by decide +kernel
theorem dX12_end_31 : decode cX12_end 31 = .ok (.getfield 32, 3) := by decide +kernel
theorem dX12_end_34 : decode cX12_end 34 = .ok (.aload_n 0, 1) := by decide +kernel
theorem dX12_end_35 : decode cX12_end 35 = .ok (.getfield 29, 3) := by decide +kernel
theorem dX12_end_38 : decode cX12_end 38 = .ok (.iload_n 1, 1) := by decide +kernel
theorem dX12_end_39 : decode cX12_end 39 = .ok (.iaload, 1) := by decide +kernel
theorem dX12_end_40 : decode cX12_end 40 = .ok (.iaload, 1) := by decide +kernel
theorem dX12_end_41 : decode cX12_end 41 = .ok (.iastore, 1) := by decide +kernel
theorem dX12_end_42 : decode cX12_end 42 = .ok (.aload_n 0, 1) := by decide +kernel
theorem dX12_end_43 : decode cX12_end 43 = .ok (.getfield 51, 3) := by decide +kernel
theorem dX12_end_46 : decode cX12_end 46 = .ok (.iload_n 1, 1) := by decide +kernel
theorem dX12_end_47 : decode cX12_end 47 = .ok (.aload_n 0, 1) := by decide +kernel
theorem dX12_end_48 : decode cX12_end 48 = .ok (.getfield 35, 3) := by decide +kernel
theorem dX12_end_51 : decode cX12_end 51 = .ok (.aload_n 0, 1) := by decide +kernel
theorem dX12_end_52 : decode cX12_end 52 = .ok (.getfield 29, 3) := by decide +kernel
theorem dX12_end_55 : decode cX12_end 55 = .ok (.iload_n 1, 1) := by decide +kernel
theorem dX12_end_56 : decode cX12_end 56 = .ok (.iaload, 1) := by decide +kernel
theorem dX12_end_57 : decode cX12_end 57 = .ok (.iaload, 1) := by decide +kernel
theorem dX12_end_58 : decode cX12_end 58 = .ok (.iastore, 1) := by decide +kernel
theorem dX12_end_59 : decode cX12_end 59 = .ok (.iinc 1 1, 3) := by decide +kernel
theorem dX12_end_62 : decode cX12_end 62 = .ok (.goto (-45), 3) := by decide +kernel
theorem dX12_end_65 : decode cX12_end 65 = .ok (.iconst 0, 1) := by decide +kernel
theorem dX12_end_66 : decode cX12_end 66 = .ok (.istore_n 1, 1) := by decide +kernel
theorem dX12_end_67 : decode cX12_end 67 = .ok (.iload_n 1, 1) := by decide +kernel
theorem dX12_end_68 : decode cX12_end 68 = .ok (.aload_n 0, 1) := by decide +kernel
theorem dX12_end_69 : decode cX12_end 69 = .ok (.getfield 13, 3) := by decide +kernel
theorem dX12_end_72 : decode cX12_end 72 = .ok (.if_icmp .ge 40, 3) := by decide +kernel
theorem dX12_end_75 : decode cX12_end 75 = .ok (.aload_n 0, 1) := by decide +kernel
theorem dX12_end_76 : decode cX12_end 76 = .ok (.getfield 32, 3) := by decide +kernel
theorem dX12_end_79 : decode cX12_end 79 = .ok (.iload_n 1, 1) := by decide +kernel
theorem dX12_end_80 : decode cX12_end 80 = .ok (.aload_n 0, 1) := by decide +kernel
theorem dX12_end_81 : decode cX12_end 81 = .ok (.getfield 48, 3) := by decide +kernel
theorem dX12_end_84 : decode cX12_end 84 = .ok (.iload_n 1, 1) := by decide +kernel
